section
-- ===== PART A: goes FIRST, ahead of the names: the tables' words, and 'selects' of the private methods out of them =====
/-- a private method of a class that the tables say can be made, by its rows of tables_1 -/
def lw_okq (q : MethodName × Nat) : Prop := (q.1.cls ≠ "java/lang/invoke/MethodHandle" ∧ q.1.cls ≠ "java/lang/invoke/VarHandle") ∧ Cond.instantiable q.1.cls q.2 ∈ tables_1 ∧ Cond.privateMethod q.1 ∈ tables_1 ∧ Cond.instanceMethod q.1 ∈ tables_1
theorem lw_p0 : lw_okq (⟨"KilnYard$Kiln", "passRamps", "()V"⟩, 13) := ⟨⟨by decide +kernel, by decide +kernel⟩, List.mem_of_getElem? (i := 68) (by decide +kernel), List.mem_of_getElem? (i := 194) (by decide +kernel), List.mem_of_getElem? (i := 195) (by decide +kernel)⟩
theorem lw_p1 : lw_okq (⟨"KilnYard$Kiln", "coolDown", "()V"⟩, 13) := ⟨⟨by decide +kernel, by decide +kernel⟩, List.mem_of_getElem? (i := 68) (by decide +kernel), List.mem_of_getElem? (i := 202) (by decide +kernel), List.mem_of_getElem? (i := 203) (by decide +kernel)⟩
theorem lw_p2 : lw_okq (⟨"KilnYard$Kiln", "follow", "(LKilnYard$Ramp;)V"⟩, 13) := ⟨⟨by decide +kernel, by decide +kernel⟩, List.mem_of_getElem? (i := 68) (by decide +kernel), List.mem_of_getElem? (i := 208) (by decide +kernel), List.mem_of_getElem? (i := 209) (by decide +kernel)⟩
theorem lw_p3 : lw_okq (⟨"KilnYard$Kiln", "rise", "(LKilnYard$Ramp;)V"⟩, 13) := ⟨⟨by decide +kernel, by decide +kernel⟩, List.mem_of_getElem? (i := 68) (by decide +kernel), List.mem_of_getElem? (i := 212) (by decide +kernel), List.mem_of_getElem? (i := 213) (by decide +kernel)⟩
theorem lw_p4 : lw_okq (⟨"KilnYard$Kiln", "fall", "(LKilnYard$Ramp;)V"⟩, 13) := ⟨⟨by decide +kernel, by decide +kernel⟩, List.mem_of_getElem? (i := 68) (by decide +kernel), List.mem_of_getElem? (i := 223) (by decide +kernel), List.mem_of_getElem? (i := 224) (by decide +kernel)⟩
theorem lw_p5 : lw_okq (⟨"KilnYard$Kiln", "payFuel", "()V"⟩, 13) := ⟨⟨by decide +kernel, by decide +kernel⟩, List.mem_of_getElem? (i := 68) (by decide +kernel), List.mem_of_getElem? (i := 227) (by decide +kernel), List.mem_of_getElem? (i := 228) (by decide +kernel)⟩
theorem lw_p6 : lw_okq (⟨"KilnYard$Kiln", "addWork", "()V"⟩, 13) := ⟨⟨by decide +kernel, by decide +kernel⟩, List.mem_of_getElem? (i := 68) (by decide +kernel), List.mem_of_getElem? (i := 231) (by decide +kernel), List.mem_of_getElem? (i := 232) (by decide +kernel)⟩
theorem lw_p7 : lw_okq (⟨"KilnYard", "potsInState", "(I)I"⟩, 14) := ⟨⟨by decide +kernel, by decide +kernel⟩, List.mem_of_getElem? (i := 34) (by decide +kernel), List.mem_of_getElem? (i := 251) (by decide +kernel), List.mem_of_getElem? (i := 252) (by decide +kernel)⟩
theorem lw_p8 : lw_okq (⟨"KilnYard", "openOrders", "()I"⟩, 14) := ⟨⟨by decide +kernel, by decide +kernel⟩, List.mem_of_getElem? (i := 34) (by decide +kernel), List.mem_of_getElem? (i := 255) (by decide +kernel), List.mem_of_getElem? (i := 256) (by decide +kernel)⟩
theorem lw_p9 : lw_okq (⟨"java/lang/Throwable", "fillInStackTrace", "(I)Ljava/lang/Throwable;"⟩, 6) := ⟨⟨by decide +kernel, by decide +kernel⟩, List.mem_of_getElem? (i := 297) (by decide +kernel), List.mem_of_getElem? (i := 295) (by decide +kernel), List.mem_of_getElem? (i := 296) (by decide +kernel)⟩
theorem lw_p10 : lw_okq (⟨"KilnYard", "withPot", "(JI)J"⟩, 14) := ⟨⟨by decide +kernel, by decide +kernel⟩, List.mem_of_getElem? (i := 34) (by decide +kernel), List.mem_of_getElem? (i := 327) (by decide +kernel), List.mem_of_getElem? (i := 328) (by decide +kernel)⟩
theorem lw_p11 : lw_okq (⟨"KilnYard", "potAt", "(I)LKilnYard$Pot;"⟩, 14) := ⟨⟨by decide +kernel, by decide +kernel⟩, List.mem_of_getElem? (i := 34) (by decide +kernel), List.mem_of_getElem? (i := 335) (by decide +kernel), List.mem_of_getElem? (i := 336) (by decide +kernel)⟩
theorem lw_p12 : lw_okq (⟨"KilnYard", "glazeAt", "(I)LKilnYard$Glaze;"⟩, 14) := ⟨⟨by decide +kernel, by decide +kernel⟩, List.mem_of_getElem? (i := 34) (by decide +kernel), List.mem_of_getElem? (i := 373) (by decide +kernel), List.mem_of_getElem? (i := 374) (by decide +kernel)⟩
theorem lw_p13 : lw_okq (⟨"KilnYard", "withShelf", "(JI)J"⟩, 14) := ⟨⟨by decide +kernel, by decide +kernel⟩, List.mem_of_getElem? (i := 34) (by decide +kernel), List.mem_of_getElem? (i := 384) (by decide +kernel), List.mem_of_getElem? (i := 385) (by decide +kernel)⟩
theorem lw_p14 : lw_okq (⟨"KilnYard", "freeCells", "(I)I"⟩, 14) := ⟨⟨by decide +kernel, by decide +kernel⟩, List.mem_of_getElem? (i := 34) (by decide +kernel), List.mem_of_getElem? (i := 405) (by decide +kernel), List.mem_of_getElem? (i := 406) (by decide +kernel)⟩
theorem lw_p15 : lw_okq (⟨"KilnYard", "takenCells", "(I)I"⟩, 14) := ⟨⟨by decide +kernel, by decide +kernel⟩, List.mem_of_getElem? (i := 34) (by decide +kernel), List.mem_of_getElem? (i := 409) (by decide +kernel), List.mem_of_getElem? (i := 410) (by decide +kernel)⟩
def lw_privs_1 : List (MethodName × Nat) := [(⟨"KilnYard$Kiln", "passRamps", "()V"⟩, 13), (⟨"KilnYard$Kiln", "coolDown", "()V"⟩, 13), (⟨"KilnYard$Kiln", "follow", "(LKilnYard$Ramp;)V"⟩, 13), (⟨"KilnYard$Kiln", "rise", "(LKilnYard$Ramp;)V"⟩, 13), (⟨"KilnYard$Kiln", "fall", "(LKilnYard$Ramp;)V"⟩, 13), (⟨"KilnYard$Kiln", "payFuel", "()V"⟩, 13), (⟨"KilnYard$Kiln", "addWork", "()V"⟩, 13), (⟨"KilnYard", "potsInState", "(I)I"⟩, 14), (⟨"KilnYard", "openOrders", "()I"⟩, 14), (⟨"java/lang/Throwable", "fillInStackTrace", "(I)Ljava/lang/Throwable;"⟩, 6), (⟨"KilnYard", "withPot", "(JI)J"⟩, 14), (⟨"KilnYard", "potAt", "(I)LKilnYard$Pot;"⟩, 14), (⟨"KilnYard", "glazeAt", "(I)LKilnYard$Glaze;"⟩, 14), (⟨"KilnYard", "withShelf", "(JI)J"⟩, 14), (⟨"KilnYard", "freeCells", "(I)I"⟩, 14), (⟨"KilnYard", "takenCells", "(I)I"⟩, 14)]
theorem lw_r1 : ∀ q ∈ lw_privs_1, lw_okq q := List.forall_mem_cons.mpr ⟨lw_p0, List.forall_mem_cons.mpr ⟨lw_p1, List.forall_mem_cons.mpr ⟨lw_p2, List.forall_mem_cons.mpr ⟨lw_p3, List.forall_mem_cons.mpr ⟨lw_p4, List.forall_mem_cons.mpr ⟨lw_p5, List.forall_mem_cons.mpr ⟨lw_p6, List.forall_mem_cons.mpr ⟨lw_p7, List.forall_mem_cons.mpr ⟨lw_p8, List.forall_mem_cons.mpr ⟨lw_p9, List.forall_mem_cons.mpr ⟨lw_p10, List.forall_mem_cons.mpr ⟨lw_p11, List.forall_mem_cons.mpr ⟨lw_p12, List.forall_mem_cons.mpr ⟨lw_p13, List.forall_mem_cons.mpr ⟨lw_p14, List.forall_mem_cons.mpr ⟨lw_p15, fun _ h => absurd h List.not_mem_nil⟩⟩⟩⟩⟩⟩⟩⟩⟩⟩⟩⟩⟩⟩⟩⟩
theorem lw_p16 : lw_okq (⟨"KilnYard", "potsOn", "(I)I"⟩, 14) := ⟨⟨by decide +kernel, by decide +kernel⟩, List.mem_of_getElem? (i := 34) (by decide +kernel), List.mem_of_getElem? (i := 422) (by decide +kernel), List.mem_of_getElem? (i := 423) (by decide +kernel)⟩
theorem lw_p17 : lw_okq (⟨"KilnYard", "longestFreeRow", "(I)I"⟩, 14) := ⟨⟨by decide +kernel, by decide +kernel⟩, List.mem_of_getElem? (i := 34) (by decide +kernel), List.mem_of_getElem? (i := 426) (by decide +kernel), List.mem_of_getElem? (i := 427) (by decide +kernel)⟩
theorem lw_p18 : lw_okq (⟨"KilnYard", "sumsOfWidths", "(I)I"⟩, 14) := ⟨⟨by decide +kernel, by decide +kernel⟩, List.mem_of_getElem? (i := 34) (by decide +kernel), List.mem_of_getElem? (i := 441) (by decide +kernel), List.mem_of_getElem? (i := 442) (by decide +kernel)⟩
theorem lw_p19 : lw_okq (⟨"KilnYard", "clayAt", "(I)LKilnYard$Clay;"⟩, 14) := ⟨⟨by decide +kernel, by decide +kernel⟩, List.mem_of_getElem? (i := 34) (by decide +kernel), List.mem_of_getElem? (i := 571) (by decide +kernel), List.mem_of_getElem? (i := 572) (by decide +kernel)⟩
theorem lw_p20 : lw_okq (⟨"KilnYard", "dryOneDay", "(I)V"⟩, 14) := ⟨⟨by decide +kernel, by decide +kernel⟩, List.mem_of_getElem? (i := 34) (by decide +kernel), List.mem_of_getElem? (i := 648) (by decide +kernel), List.mem_of_getElem? (i := 649) (by decide +kernel)⟩
theorem lw_p21 : lw_okq (⟨"KilnYard", "heatPots", "()V"⟩, 14) := ⟨⟨by decide +kernel, by decide +kernel⟩, List.mem_of_getElem? (i := 34) (by decide +kernel), List.mem_of_getElem? (i := 749) (by decide +kernel), List.mem_of_getElem? (i := 750) (by decide +kernel)⟩
theorem lw_p22 : lw_okq (⟨"KilnYard", "orderAt", "(I)LKilnYard$Order;"⟩, 14) := ⟨⟨by decide +kernel, by decide +kernel⟩, List.mem_of_getElem? (i := 34) (by decide +kernel), List.mem_of_getElem? (i := 831) (by decide +kernel), List.mem_of_getElem? (i := 832) (by decide +kernel)⟩
theorem lw_p23 : lw_okq (⟨"KilnYardModel", "start", "(ZI)Z"⟩, 10) := ⟨⟨by decide +kernel, by decide +kernel⟩, List.mem_of_getElem? (i := 888) (by decide +kernel), List.mem_of_getElem? (i := 1019) (by decide +kernel), List.mem_of_getElem? (i := 1020) (by decide +kernel)⟩
theorem lw_p24 : lw_okq (⟨"KilnYardModel", "refuse", "(ZI)Z"⟩, 10) := ⟨⟨by decide +kernel, by decide +kernel⟩, List.mem_of_getElem? (i := 888) (by decide +kernel), List.mem_of_getElem? (i := 1023) (by decide +kernel), List.mem_of_getElem? (i := 1024) (by decide +kernel)⟩
theorem lw_p25 : lw_okq (⟨"java/util/ArrayList", "add", "(Ljava/lang/Object;[Ljava/lang/Object;I)V"⟩, 3) := ⟨⟨by decide +kernel, by decide +kernel⟩, List.mem_of_getElem? (i := 894) (by decide +kernel), List.mem_of_getElem? (i := 1035) (by decide +kernel), List.mem_of_getElem? (i := 1036) (by decide +kernel)⟩
theorem lw_p26 : lw_okq (⟨"java/util/ArrayList", "grow", "()[Ljava/lang/Object;"⟩, 3) := ⟨⟨by decide +kernel, by decide +kernel⟩, List.mem_of_getElem? (i := 894) (by decide +kernel), List.mem_of_getElem? (i := 1039) (by decide +kernel), List.mem_of_getElem? (i := 1040) (by decide +kernel)⟩
theorem lw_p27 : lw_okq (⟨"java/util/ArrayList", "grow", "(I)[Ljava/lang/Object;"⟩, 3) := ⟨⟨by decide +kernel, by decide +kernel⟩, List.mem_of_getElem? (i := 894) (by decide +kernel), List.mem_of_getElem? (i := 1043) (by decide +kernel), List.mem_of_getElem? (i := 1044) (by decide +kernel)⟩
theorem lw_p28 : lw_okq (⟨"KilnYardModel", "isNoClay", "(I)Z"⟩, 10) := ⟨⟨by decide +kernel, by decide +kernel⟩, List.mem_of_getElem? (i := 888) (by decide +kernel), List.mem_of_getElem? (i := 1099) (by decide +kernel), List.mem_of_getElem? (i := 1100) (by decide +kernel)⟩
theorem lw_p29 : lw_okq (⟨"KilnYardModel", "isNoPot", "(I)Z"⟩, 10) := ⟨⟨by decide +kernel, by decide +kernel⟩, List.mem_of_getElem? (i := 888) (by decide +kernel), List.mem_of_getElem? (i := 1162) (by decide +kernel), List.mem_of_getElem? (i := 1163) (by decide +kernel)⟩
theorem lw_p30 : lw_okq (⟨"KilnYardModel", "manyIn", "(I)I"⟩, 10) := ⟨⟨by decide +kernel, by decide +kernel⟩, List.mem_of_getElem? (i := 888) (by decide +kernel), List.mem_of_getElem? (i := 1245) (by decide +kernel), List.mem_of_getElem? (i := 1246) (by decide +kernel)⟩
theorem lw_p31 : lw_okq (⟨"KilnYardModel", "isNoGlaze", "(I)Z"⟩, 10) := ⟨⟨by decide +kernel, by decide +kernel⟩, List.mem_of_getElem? (i := 888) (by decide +kernel), List.mem_of_getElem? (i := 1256) (by decide +kernel), List.mem_of_getElem? (i := 1257) (by decide +kernel)⟩
def lw_privs_2 : List (MethodName × Nat) := [(⟨"KilnYard", "potsOn", "(I)I"⟩, 14), (⟨"KilnYard", "longestFreeRow", "(I)I"⟩, 14), (⟨"KilnYard", "sumsOfWidths", "(I)I"⟩, 14), (⟨"KilnYard", "clayAt", "(I)LKilnYard$Clay;"⟩, 14), (⟨"KilnYard", "dryOneDay", "(I)V"⟩, 14), (⟨"KilnYard", "heatPots", "()V"⟩, 14), (⟨"KilnYard", "orderAt", "(I)LKilnYard$Order;"⟩, 14), (⟨"KilnYardModel", "start", "(ZI)Z"⟩, 10), (⟨"KilnYardModel", "refuse", "(ZI)Z"⟩, 10), (⟨"java/util/ArrayList", "add", "(Ljava/lang/Object;[Ljava/lang/Object;I)V"⟩, 3), (⟨"java/util/ArrayList", "grow", "()[Ljava/lang/Object;"⟩, 3), (⟨"java/util/ArrayList", "grow", "(I)[Ljava/lang/Object;"⟩, 3), (⟨"KilnYardModel", "isNoClay", "(I)Z"⟩, 10), (⟨"KilnYardModel", "isNoPot", "(I)Z"⟩, 10), (⟨"KilnYardModel", "manyIn", "(I)I"⟩, 10), (⟨"KilnYardModel", "isNoGlaze", "(I)Z"⟩, 10)]
theorem lw_r2 : ∀ q ∈ lw_privs_2, lw_okq q := List.forall_mem_cons.mpr ⟨lw_p16, List.forall_mem_cons.mpr ⟨lw_p17, List.forall_mem_cons.mpr ⟨lw_p18, List.forall_mem_cons.mpr ⟨lw_p19, List.forall_mem_cons.mpr ⟨lw_p20, List.forall_mem_cons.mpr ⟨lw_p21, List.forall_mem_cons.mpr ⟨lw_p22, List.forall_mem_cons.mpr ⟨lw_p23, List.forall_mem_cons.mpr ⟨lw_p24, List.forall_mem_cons.mpr ⟨lw_p25, List.forall_mem_cons.mpr ⟨lw_p26, List.forall_mem_cons.mpr ⟨lw_p27, List.forall_mem_cons.mpr ⟨lw_p28, List.forall_mem_cons.mpr ⟨lw_p29, List.forall_mem_cons.mpr ⟨lw_p30, List.forall_mem_cons.mpr ⟨lw_p31, fun _ h => absurd h List.not_mem_nil⟩⟩⟩⟩⟩⟩⟩⟩⟩⟩⟩⟩⟩⟩⟩⟩
theorem lw_p32 : lw_okq (⟨"KilnYardModel", "melts", "(I)I"⟩, 10) := ⟨⟨by decide +kernel, by decide +kernel⟩, List.mem_of_getElem? (i := 888) (by decide +kernel), List.mem_of_getElem? (i := 1260) (by decide +kernel), List.mem_of_getElem? (i := 1261) (by decide +kernel)⟩
theorem lw_p33 : lw_okq (⟨"KilnYardModel", "isHot", "()Z"⟩, 10) := ⟨⟨by decide +kernel, by decide +kernel⟩, List.mem_of_getElem? (i := 888) (by decide +kernel), List.mem_of_getElem? (i := 1301) (by decide +kernel), List.mem_of_getElem? (i := 1302) (by decide +kernel)⟩
theorem lw_p34 : lw_okq (⟨"KilnYardModel", "isTaken", "(II)Z"⟩, 10) := ⟨⟨by decide +kernel, by decide +kernel⟩, List.mem_of_getElem? (i := 888) (by decide +kernel), List.mem_of_getElem? (i := 1309) (by decide +kernel), List.mem_of_getElem? (i := 1310) (by decide +kernel)⟩
theorem lw_p35 : lw_okq (⟨"KilnYardModel", "free", "(I)I"⟩, 10) := ⟨⟨by decide +kernel, by decide +kernel⟩, List.mem_of_getElem? (i := 888) (by decide +kernel), List.mem_of_getElem? (i := 1313) (by decide +kernel), List.mem_of_getElem? (i := 1314) (by decide +kernel)⟩
theorem lw_p36 : lw_okq (⟨"KilnYardModel", "placed", "(I)I"⟩, 10) := ⟨⟨by decide +kernel, by decide +kernel⟩, List.mem_of_getElem? (i := 888) (by decide +kernel), List.mem_of_getElem? (i := 1344) (by decide +kernel), List.mem_of_getElem? (i := 1345) (by decide +kernel)⟩
theorem lw_p37 : lw_okq (⟨"KilnYardModel$Kiln", "lit", "(II)V"⟩, 11) := ⟨⟨by decide +kernel, by decide +kernel⟩, List.mem_of_getElem? (i := 923) (by decide +kernel), List.mem_of_getElem? (i := 1360) (by decide +kernel), List.mem_of_getElem? (i := 1361) (by decide +kernel)⟩
theorem lw_p38 : lw_okq (⟨"KilnYardModel", "finish", "(LKilnYardModel$Pot;I)V"⟩, 10) := ⟨⟨by decide +kernel, by decide +kernel⟩, List.mem_of_getElem? (i := 888) (by decide +kernel), List.mem_of_getElem? (i := 1418) (by decide +kernel), List.mem_of_getElem? (i := 1419) (by decide +kernel)⟩
theorem lw_p39 : lw_okq (⟨"KilnYardModel", "growth", "(I)D"⟩, 10) := ⟨⟨by decide +kernel, by decide +kernel⟩, List.mem_of_getElem? (i := 888) (by decide +kernel), List.mem_of_getElem? (i := 1423) (by decide +kernel), List.mem_of_getElem? (i := 1424) (by decide +kernel)⟩
theorem lw_p40 : lw_okq (⟨"KilnYardModel", "growthOf", "(I)D"⟩, 10) := ⟨⟨by decide +kernel, by decide +kernel⟩, List.mem_of_getElem? (i := 888) (by decide +kernel), List.mem_of_getElem? (i := 1430) (by decide +kernel), List.mem_of_getElem? (i := 1431) (by decide +kernel)⟩
theorem lw_p41 : lw_okq (⟨"KilnYardModel", "colour", "(LKilnYardModel$Pot;)I"⟩, 10) := ⟨⟨by decide +kernel, by decide +kernel⟩, List.mem_of_getElem? (i := 888) (by decide +kernel), List.mem_of_getElem? (i := 1445) (by decide +kernel), List.mem_of_getElem? (i := 1446) (by decide +kernel)⟩
theorem lw_p42 : lw_okq (⟨"KilnYardModel", "toldOfPot", "(II)I"⟩, 10) := ⟨⟨by decide +kernel, by decide +kernel⟩, List.mem_of_getElem? (i := 888) (by decide +kernel), List.mem_of_getElem? (i := 1454) (by decide +kernel), List.mem_of_getElem? (i := 1455) (by decide +kernel)⟩
theorem lw_p43 : lw_okq (⟨"KilnYardModel", "toldOfGlaze", "(II)D"⟩, 10) := ⟨⟨by decide +kernel, by decide +kernel⟩, List.mem_of_getElem? (i := 888) (by decide +kernel), List.mem_of_getElem? (i := 1466) (by decide +kernel), List.mem_of_getElem? (i := 1467) (by decide +kernel)⟩
theorem lw_p44 : lw_okq (⟨"KilnYardModel", "toldOfShelf", "(II)I"⟩, 10) := ⟨⟨by decide +kernel, by decide +kernel⟩, List.mem_of_getElem? (i := 888) (by decide +kernel), List.mem_of_getElem? (i := 1480) (by decide +kernel), List.mem_of_getElem? (i := 1481) (by decide +kernel)⟩
theorem lw_p45 : lw_okq (⟨"KilnYardModel", "row", "(I)I"⟩, 10) := ⟨⟨by decide +kernel, by decide +kernel⟩, List.mem_of_getElem? (i := 888) (by decide +kernel), List.mem_of_getElem? (i := 1484) (by decide +kernel), List.mem_of_getElem? (i := 1485) (by decide +kernel)⟩
theorem lw_p46 : lw_okq (⟨"KilnYardModel", "count", "(I)I"⟩, 10) := ⟨⟨by decide +kernel, by decide +kernel⟩, List.mem_of_getElem? (i := 888) (by decide +kernel), List.mem_of_getElem? (i := 1492) (by decide +kernel), List.mem_of_getElem? (i := 1493) (by decide +kernel)⟩
theorem lw_p47 : lw_okq (⟨"KilnYardModel", "coneBy", "(II)I"⟩, 10) := ⟨⟨by decide +kernel, by decide +kernel⟩, List.mem_of_getElem? (i := 888) (by decide +kernel), List.mem_of_getElem? (i := 1500) (by decide +kernel), List.mem_of_getElem? (i := 1501) (by decide +kernel)⟩
def lw_privs_3 : List (MethodName × Nat) := [(⟨"KilnYardModel", "melts", "(I)I"⟩, 10), (⟨"KilnYardModel", "isHot", "()Z"⟩, 10), (⟨"KilnYardModel", "isTaken", "(II)Z"⟩, 10), (⟨"KilnYardModel", "free", "(I)I"⟩, 10), (⟨"KilnYardModel", "placed", "(I)I"⟩, 10), (⟨"KilnYardModel$Kiln", "lit", "(II)V"⟩, 11), (⟨"KilnYardModel", "finish", "(LKilnYardModel$Pot;I)V"⟩, 10), (⟨"KilnYardModel", "growth", "(I)D"⟩, 10), (⟨"KilnYardModel", "growthOf", "(I)D"⟩, 10), (⟨"KilnYardModel", "colour", "(LKilnYardModel$Pot;)I"⟩, 10), (⟨"KilnYardModel", "toldOfPot", "(II)I"⟩, 10), (⟨"KilnYardModel", "toldOfGlaze", "(II)D"⟩, 10), (⟨"KilnYardModel", "toldOfShelf", "(II)I"⟩, 10), (⟨"KilnYardModel", "row", "(I)I"⟩, 10), (⟨"KilnYardModel", "count", "(I)I"⟩, 10), (⟨"KilnYardModel", "coneBy", "(II)I"⟩, 10)]
theorem lw_r3 : ∀ q ∈ lw_privs_3, lw_okq q := List.forall_mem_cons.mpr ⟨lw_p32, List.forall_mem_cons.mpr ⟨lw_p33, List.forall_mem_cons.mpr ⟨lw_p34, List.forall_mem_cons.mpr ⟨lw_p35, List.forall_mem_cons.mpr ⟨lw_p36, List.forall_mem_cons.mpr ⟨lw_p37, List.forall_mem_cons.mpr ⟨lw_p38, List.forall_mem_cons.mpr ⟨lw_p39, List.forall_mem_cons.mpr ⟨lw_p40, List.forall_mem_cons.mpr ⟨lw_p41, List.forall_mem_cons.mpr ⟨lw_p42, List.forall_mem_cons.mpr ⟨lw_p43, List.forall_mem_cons.mpr ⟨lw_p44, List.forall_mem_cons.mpr ⟨lw_p45, List.forall_mem_cons.mpr ⟨lw_p46, List.forall_mem_cons.mpr ⟨lw_p47, fun _ h => absurd h List.not_mem_nil⟩⟩⟩⟩⟩⟩⟩⟩⟩⟩⟩⟩⟩⟩⟩⟩
theorem lw_p48 : lw_okq (⟨"KilnYardModel", "ending", "()I"⟩, 10) := ⟨⟨by decide +kernel, by decide +kernel⟩, List.mem_of_getElem? (i := 888) (by decide +kernel), List.mem_of_getElem? (i := 1530) (by decide +kernel), List.mem_of_getElem? (i := 1531) (by decide +kernel)⟩
theorem lw_p49 : lw_okq (⟨"KilnYardModel", "holding", "(I)I"⟩, 10) := ⟨⟨by decide +kernel, by decide +kernel⟩, List.mem_of_getElem? (i := 888) (by decide +kernel), List.mem_of_getElem? (i := 1543) (by decide +kernel), List.mem_of_getElem? (i := 1544) (by decide +kernel)⟩
def lw_privs_4 : List (MethodName × Nat) := [(⟨"KilnYardModel", "ending", "()I"⟩, 10), (⟨"KilnYardModel", "holding", "(I)I"⟩, 10)]
theorem lw_r4 : ∀ q ∈ lw_privs_4, lw_okq q := List.forall_mem_cons.mpr ⟨lw_p48, List.forall_mem_cons.mpr ⟨lw_p49, fun _ h => absurd h List.not_mem_nil⟩⟩
def lw_privs : List (MethodName × Nat) := lw_privs_1 ++ (lw_privs_2 ++ (lw_privs_3 ++ (lw_privs_4)))
def lw_tbl : List Cond := k2_sels lw_privs ++ tables_1
theorem lw_privs_ok : ∀ q ∈ lw_privs, lw_okq q := by
  show ∀ q ∈ lw_privs_1 ++ (lw_privs_2 ++ (lw_privs_3 ++ (lw_privs_4))), lw_okq q
  exact List.forall_mem_append.mpr ⟨lw_r1, List.forall_mem_append.mpr ⟨lw_r2, List.forall_mem_append.mpr ⟨lw_r3, lw_r4⟩⟩⟩
/-- the streams that the claim lets the run draw from -/
abbrev lw_cs : List Choice := [Jvm.Choice.named "NaN.bits", Jvm.Choice.named "NaN.copy"]
theorem lw_bits : nanBits ∈ lw_cs := by first | decide | exact List.mem_cons_self | simp [lw_cs, nanBits]
-- ===== end of PART A; then your names; then what follows =====
end
section
/-! ===== BEGIN words of one list among another's, by their places ===== -/
theorem goodIn_r {big : List Cond} (ws : List Cond) (ps : List Nat) (hp : ws = ps.filterMap (fun i => big[i]?)) (h : ws.all goodWord = true) : GoodIn big ws := by
  intro w hw
  have h1 := List.all_eq_true.mp h w hw
  rw [hp] at hw
  obtain ⟨i, -, hi⟩ := List.mem_filterMap.mp hw
  have hm : w ∈ big := by first | exact List.mem_of_getElem? hi | exact List.getElem?_mem hi
  exact ⟨hm, good_of_word h1⟩
theorem goodIn_app {big a b : List Cond} (ha : GoodIn big a) (hb : GoodIn big b) : GoodIn big (a ++ b) := fun w h => (List.mem_append.mp h).elim (ha w) (hb w)
theorem goodIn_ca {big a b : List Cond} {c : Cond} (ha : GoodIn big (c :: a)) (hb : GoodIn big b) : GoodIn big (c :: (a ++ b)) := fun w h => (List.mem_cons.mp h).elim (fun e => ha w (List.mem_cons.mpr (Or.inl e))) (fun h => (List.mem_append.mp h).elim (fun h => ha w (List.mem_cons.mpr (Or.inr h))) (hb w))
theorem goodIn_sub {big ws : List Cond} (hm : ∀ w ∈ ws, w ∈ big) (h : ws.all goodWord = true) : GoodIn big ws := fun w hw => ⟨hm w hw, good_of_word (List.all_eq_true.mp h w hw)⟩
/-! ===== END ===== -/

/-! ===== BEGIN exceptions that leave a method, and their catching by the caller (launches without stack traces) ===== -/
section VXA
/-! The laws vx_back, vx_callV, vx_callS, vx_callSW, vx_throw0, vx_throwS follow proofs of the library, with one case more: JvmDerived/Free/Laws.lean (Back.of_free), Shelf42/LK1.lean (callV, callS), Shelf/KitTraced.lean (throwNew0V, throwNewS). -/
/-- where a method has thrown q: the class by its name, the cell, what was written, the world -/
def vx_T (XC : String → State → State → Prop) (st : State) (q : Addr) (t : State) (mc ms : Nat) (free : Addr → Prop) : Prop :=
  ∃ (E : String) (ce : Cell) (L : List Loc), XC E st t ∧ t.heap[q]? = some ce ∧ ce.vm = .none ∧ st.vm.findClass E = some ce.cls ∧ st.WarmedH t.vm ∧ st.sameButNew ({ t with vm := st.vm } : State) L mc ms ∧ ∀ z ∈ L, free z.base
def vx_Q (Qc : Array Value → State → Outcome → State → Prop) (XC : String → State → State → Prop) (mc ms : Nat) (free : Addr → Prop) : Array Value → State → Outcome → State → Prop := fun a st o t =>
  (Qc a st o t ∧ ∃ L, FrameEnd st o t L mc ms ∧ ∀ q ∈ L, free q.base) ∨ ∃ q, o = .threw q ∧ vx_T XC st q t mc ms free
/-- a callee that returns or throws -/
def vx_Met (l : Launch) (y : MethodName) (ws : List Cond) (rm : Room) (Pc : Array Value → State → Prop) (Qc : Array Value → State → Outcome → State → Prop) (XC : String → State → State → Prop) (mc ms : Nat) (free : Addr → Prop) : Prop :=
  MetFree l y (headSpec ws rm) Pc (fun _ _ _ _ _ => True) (vx_Q Qc XC mc ms free)
def vx_Post (XC : String → State → State → Prop) (mc ms : Nat) (free : Addr → Prop) : Pt → Array Value → Addr → Pt → Prop := fun A a q B =>
  ∃ (g : JFrame) (mk : MethodId) (t : State) (L : List Loc) (E : String) (ce : Cell), B.U.heap = t.heap ∧ B.U.vm = t.vm ∧ XC E (A.U.calling g mk a) t ∧ t.heap[q]? = some ce ∧ ce.vm = .none ∧ A.U.vm.findClass E = some ce.cls ∧ B.locs = A.locs ++ L ∧ (∀ z ∈ L, free z.base) ∧ B.cells = A.cells + mc ∧ B.slots = A.slots + ms
def vx_Back (l : Launch) (R : Room) (p : Program) (e : Env) (below : List Frame) (s : State) (sargs : Array Value) (y : MethodName) (len W9 : Nat)
    (Pre : Pt → Array Value → Prop) (Post : Pt → Array Value → Option Value → Pt → Prop) (PostX : Pt → Array Value → Addr → Pt → Prop) : Prop :=
  ∀ (m : MethodId) (meth : Method) (c : Code) (A : Pt) (g : JFrame) (ig : Instr) (mk : MethodId) (a : Array Value),
    Stand p l e R s m sargs below meth c A.U A.locs A.cells A.slots → g.method = m → g.locals.size = c.maxLocals → decode c.code g.pc = .ok (ig, len) →
    2 * g.monitorRoom + (g.stack.map fun v => v.category).sum ≤ W9 → A.U.methodNamed? y = some mk → Pre A a →
    (∃ (v : Option Value) (B : Pt), Stand p l e R s m sargs below meth c B.U B.locs B.cells B.slots ∧ Post A a v B ∧
      Steps p.tables e below (doInvoke e (A.U.setTop g) [] mk a).1 (B.U.setTop { g with pc := g.pc + len, stack := v.toList ++ g.stack })) ∨
    (∃ (q : Addr) (B : Pt), Stand p l e R s m sargs below meth c B.U B.locs B.cells B.slots ∧ PostX A a q B ∧
      Steps p.tables e below (doInvoke e (A.U.setTop g) [] mk a).1 ((B.U.setTop g).pushFrame (.throwing q)))
section Payer
variable {l : Launch} {R : Room} {p : Program} {e : Env} {below : List Frame} {s : State} {sargs : Array Value} {y : MethodName} {len W9 : Nat}
theorem vx_back {ws : List Cond} {rm : Room} {Pc : Array Value → State → Prop} {Qc : Array Value → State → Outcome → State → Prop} {XC : String → State → State → Prop} {mc ms : Nat} {free : Addr → Prop} {bytes : ByteArray} {maxL : Nat} {ret : Option FieldType}
    (hM : vx_Met l y ws rm Pc Qc XC mc ms free) (hblind : FrameBlind Pc) (hrc : rm.cells = mc) (hrs : rm.slots = ms)
    (hframes : rm.frames + 1 ≤ R.frames) (hlocals : W9 + (maxL + 11) + rm.locals ≤ R.locals)
    (hws : ∀ w ∈ ws, ∀ a' U, s.WarmedH U.vm → w.before a' U = true) (hcode : Cond.code y bytes maxL ret ∈ ws) (hinit : ∀ a' U, s.WarmedH U.vm → (Cond.initialized y.cls).before a' U = true) :
    vx_Back l R p e below s sargs y len W9 (PreOf R mc ms Pc) (PostOf Qc mc ms free) (vx_Post XC mc ms free) := by
  intro m meth c A g ig mk a X hg hsize hdg hW hn hp
  have h1 : (headSpec ws rm).pre.before a A.U = true := atoms_intro fun w hw => hws w hw _ _ X.warmed
  have h2 : (Cond.code y bytes maxL ret).before a A.U = true := hws _ hcode _ _ X.warmed
  have h3 : (Cond.initialized y.cls).before a A.U = true := hinit _ _ X.warmed
  have h4 : A.cells + (headSpec ws rm).room.cells ≤ R.cells := by rw [show (headSpec ws rm).room.cells = mc from hrc]; exact hp.1
  have h5 : A.slots + (headSpec ws rm).room.slots ≤ R.slots := by rw [show (headSpec ws rm).room.slots = ms from hrs]; exact hp.2.1
  have hPc : Pc a (A.U.calling g mk a) := hblind _ _ _ _ hp.2.2
  obtain ⟨U, Ls, c0, s0⟩ := A
  dsimp only [Pt.U, Pt.locs, Pt.cells, Pt.slots] at h1 h2 h3 h4 h5 X hn hPc ⊢
  obtain ⟨methY, cY, hmY, hcY, -, hlY, -, -, -, -⟩ := Cond.code_spec hn h2
  obtain ⟨kY, hkY, -⟩ := className_of_methodNamed hn
  have hinitY : kY.init = .initialized := Cond.initialized_spec (findClass_of_methodNamed hn) hkY h3
  have h : At U g.method c below := by rw [hg]; exact X.here
  have hlocals9 : W9 + (maxL + 11) + (headSpec ws rm).room.locals ≤ R.locals := hlocals
  have happ : (headSpec ws rm).appliesLoose y e.platform (U.calling g mk a) = true :=
    Spec.appliesLoose_calling (g := g) h hdg hn hkY hinitY
      (X.room_calling (g := g) (R' := (headSpec ws rm).room) hsize hmY hcY hframes (by rw [hlY]; omega) h4 h5) h1
  obtain ⟨mid, hmid⟩ := h.above
  have hfr : (U.setTop g).frames = (.java g :: mid) ++ below := by rw [State.frames_setTop' g h.top, hmid]; rfl
  obtain ⟨o, s₂, hsteps, -, hend, hq⟩ := Steps.callFree hM p X.admits X.cas X.clock (acts := []) hfr happ hPc trivial
  have hq' : vx_Q Qc XC mc ms free a (U.calling g mk a) o s₂ := hq
  rw [State.frames_setTop' g h.top] at hend
  obtain ⟨g₀, hg0⟩ := Option.isSome_iff_exists.mp h.top
  obtain ⟨r, hr⟩ := State.topJava?_eq_some.mp hg0
  have hr' : (({ U with heap := s₂.heap, slotsUsed := s₂.slotsUsed } : State).setVm s₂.vm).frames = .java g₀ :: r := hr
  rcases hq' with ⟨hqc, L, hfe, hL⟩ | ⟨q, rfl, E, ce, L, hx, hce, hcv, hcl, hW₂, hsm, hL⟩
  · obtain ⟨⟨v, rfl⟩, hW₂, e2, q2, q3, q4, q5, q6⟩ := id hfe
    have e3 : s₂ = ({ (U.calling g mk a).setFrames s₂.frames with heap := s₂.heap, slotsUsed := s₂.slotsUsed } : State).setVm s₂.vm := by
      have : s₂ = ({ s₂ with vm := (U.calling g mk a).vm } : State).setVm s₂.vm := rfl
      rw [e2] at this
      exact this
    obtain ⟨c₂, i₂, len₂, hc₂, hd₂, hf₂⟩ := hend
    have hW' : U.WarmedH s₂.vm := hW₂
    have hcc : c₂ = c := by
      have h1 : s₂.code? g.method = U.code? g.method := by
        rw [State.code?_eq, State.code?_eq, hW'.alike.method?]
      exact Option.some.inj (hc₂.symm.trans (h1.trans h.code))
    subst hcc
    have hlen : len₂ = len := by rw [hdg] at hd₂; cases hd₂; rfl
    subst hlen
    have hs₂ : s₂ = (({ U with heap := s₂.heap, slotsUsed := s₂.slotsUsed } : State).setVm s₂.vm).setTop { g with pc := g.pc + len₂, stack := v.toList ++ g.stack } := by
      refine e3.trans ?_
      rw [hf₂, State.calling_eq h.top, State.setFrames_setFrames, State.setTop_of_frames _ hr', hr]
      rfl
    have hsame : U.sameButNew ({ U with heap := s₂.heap, slotsUsed := s₂.slotsUsed } : State) L mc ms := by
      refine ⟨?_, q2, q3, q4, q5, q6⟩
      obtain ⟨t, ht, -⟩ := State.frames_cons hr
      show ({ U with heap := s₂.heap, slotsUsed := s₂.slotsUsed } : State) = { U.setFrames U.frames with heap := s₂.heap, slotsUsed := s₂.slotsUsed }
      rw [State.setFrames_self ht]
    subst hg
    refine Or.inl ⟨v, ⟨(({ U with heap := s₂.heap, slotsUsed := s₂.slotsUsed } : State).setVm s₂.vm), Ls ++ L, c0 + mc, s0 + ms⟩,
      ⟨X.admits, X.cas, X.clock, X.frames, X.room, X.hears, X.method, X.code, (X.here.setHeapUsed s₂.heap s₂.slotsUsed).setVm hW'.alike, X.tail, State.WarmedH.trans X.warmed hW', X.limits, X.bytes, X.same.trans (hsame.setVm s.vm)⟩,
      ⟨g, mk, s₂, L, rfl, rfl, hqc, rfl, hL, rfl, rfl⟩, ?_⟩
    show Steps p.tables e below _ ((({ U with heap := s₂.heap, slotsUsed := s₂.slotsUsed } : State).setVm s₂.vm).setTop { g with pc := g.pc + len₂, stack := v.toList ++ g.stack })
    rw [← hs₂]
    exact hsteps
  · obtain ⟨e2, q2, q3, q4, q5, q6⟩ := id hsm
    have e3 : s₂ = ({ (U.calling g mk a).setFrames s₂.frames with heap := s₂.heap, slotsUsed := s₂.slotsUsed } : State).setVm s₂.vm := by
      have : s₂ = ({ s₂ with vm := (U.calling g mk a).vm } : State).setVm s₂.vm := rfl
      rw [e2] at this
      exact this
    have hf₂ : s₂.frames = .throwing q :: .java g :: U.frames.tail := hend
    have hW' : U.WarmedH s₂.vm := hW₂
    have hs₂ : s₂ = ((({ U with heap := s₂.heap, slotsUsed := s₂.slotsUsed } : State).setVm s₂.vm).setTop g).pushFrame (.throwing q) := by
      refine e3.trans ?_
      rw [hf₂, State.calling_eq h.top, State.setFrames_setFrames, State.pushFrame, State.frames_setTop _ hr', State.setTop_of_frames _ hr', State.setFrames_setFrames, hr]
      rfl
    have hsame : U.sameButNew ({ U with heap := s₂.heap, slotsUsed := s₂.slotsUsed } : State) L mc ms := by
      refine ⟨?_, q2, q3, q4, q5, q6⟩
      obtain ⟨t, ht, -⟩ := State.frames_cons hr
      show ({ U with heap := s₂.heap, slotsUsed := s₂.slotsUsed } : State) = { U.setFrames U.frames with heap := s₂.heap, slotsUsed := s₂.slotsUsed }
      rw [State.setFrames_self ht]
    subst hg
    refine Or.inr ⟨q, ⟨(({ U with heap := s₂.heap, slotsUsed := s₂.slotsUsed } : State).setVm s₂.vm), Ls ++ L, c0 + mc, s0 + ms⟩,
      ⟨X.admits, X.cas, X.clock, X.frames, X.room, X.hears, X.method, X.code, (X.here.setHeapUsed s₂.heap s₂.slotsUsed).setVm hW'.alike, X.tail, State.WarmedH.trans X.warmed hW', X.limits, X.bytes, X.same.trans (hsame.setVm s.vm)⟩,
      ⟨g, mk, s₂, L, E, ce, rfl, rfl, hx, hce, hcv, hcl, rfl, hL, rfl, rfl⟩, ?_⟩
    show Steps p.tables e below _ (((({ U with heap := s₂.heap, slotsUsed := s₂.slotsUsed } : State).setVm s₂.vm).setTop g).pushFrame (.throwing q))
    rw [← hs₂]
    exact hsteps
end Payer
section Calls
variable {p : Program} {l : Launch} {e : Env} {R : Room} {s : State} {m : MethodId} {args : Array Value} {below : List Frame} {meth : Method} {c : Code} {T : State} {locs : List Loc} {cells slots : Nat}
theorem vx_callV (X : Stand p l e R s m args below meth c T locs cells slots) (hexec : p.tables.exec = Jvm.exec) {own C : String} {index : Nat} {y : MethodName} {bytes : ByteArray} {maxL : Nat} {ret : Option FieldType}
    (hown : s.vm.findClass own = some m.cls) (hlink : (Cond.methodLink own index y).before args s = true) (hinst : (Cond.instanceMethod y).before args s = true) (hsel : (Cond.selects C y y).before args s = true)
    (hcode : (Cond.code y bytes maxL ret).before args s = true) (hy : y.cls ≠ "java/lang/invoke/MethodHandle" ∧ y.cls ≠ "java/lang/invoke/VarHandle")
    {W9 : Nat} {Pre : Pt → Array Value → Prop} {Post : Pt → Array Value → Option Value → Pt → Prop} {PostX : Pt → Array Value → Addr → Pt → Prop} (hK : vx_Back l R p e below s args y 3 W9 Pre Post PostX)
    {b : Addr} {cellB : Cell} (hcell : T.heap[b]? = some cellB) (hobj : cellB.vm.isStatics = false) (hcls : s.vm.findClass C = some cellB.cls)
    {g : JFrame} (hg : g.method = m) (hsize : g.locals.size = c.maxLocals) {argsL rest : List Value} (hlen : ∀ sig, parseMethodDescriptor y.desc = some sig → argsL.length = sig.parameters.length)
    (hstack : g.stack = argsL.reverse ++ .ref b :: rest) (hW : 2 * g.monitorRoom + (rest.map fun v => v.category).sum ≤ W9) (hdg : decode c.code g.pc = .ok (.invokevirtual index, 3))
    (hpre : ∀ vm₁, s.WarmedH vm₁ → Pre ⟨T.setVm vm₁, locs, cells, slots⟩ (Value.ref b :: argsL).toArray) :
    (∃ (v : Option Value) (vm₁ : Vm) (B : Pt), s.WarmedH vm₁ ∧ Stand p l e R s m args below meth c B.U B.locs B.cells B.slots ∧ Post ⟨T.setVm vm₁, locs, cells, slots⟩ (Value.ref b :: argsL).toArray v B ∧
      ∀ target, Steps p.tables e below (B.U.setTop { g with pc := g.pc + 3, stack := v.toList ++ rest }) target → Steps p.tables e below (T.setTop g) target) ∨
    (∃ (q : Addr) (vm₁ : Vm) (B : Pt), s.WarmedH vm₁ ∧ Stand p l e R s m args below meth c B.U B.locs B.cells B.slots ∧ PostX ⟨T.setVm vm₁, locs, cells, slots⟩ (Value.ref b :: argsL).toArray q B ∧
      Steps p.tables e below (T.setTop g) ((B.U.setTop { g with stack := rest }).pushFrame (.throwing q))) := by
  obtain ⟨mk, methM, hnamed, hmethM, hstM, habM⟩ := Cond.instanceMethod_spec hinst
  obtain ⟨methM', cM, hmethM', -, -, -, -, -, -, hsigM⟩ := Cond.code_spec hnamed hcode
  cases hmethM.symm.trans hmethM'
  obtain ⟨c2, r2, m2, q1, q2, q3, q4, kP, hkP, hkPi⟩ := Cond.selects_spec hsel
  cases hcls.symm.trans q1
  cases (State.methodFound?_of_named hnamed hy).symm.trans q2
  cases hnamed.symm.trans q3
  have hselP : selectMethod e.platform s.vm cellB.cls mk = .method mk := by rw [Launch.admits_selectMethod X.admits]; exact q4
  obtain ⟨vm₁, X₁, hstep₁⟩ := X.invokevirtual hexec hown hlink hnamed hmethM hstM hkP hkPi hy (a := b) (cell := cellB) hcell
    (fun z h => by rw [h] at hobj; cases hobj) hselP hmethM habM hkP hkPi (g := g) hg (argsL := argsL) (rest := rest) (hlen _ hsigM) hstack hdg
  rcases hK m meth c ⟨T.setVm vm₁, locs, cells, slots⟩ { g with stack := rest } (.invokevirtual index) mk (Value.ref b :: argsL).toArray X₁ hg hsize hdg hW (X₁.named hnamed) (hpre vm₁ X₁.warmed) with ⟨v, B, X', hpost, hsteps⟩ | ⟨q, B, X', hpost, hsteps⟩
  · exact Or.inl ⟨v, vm₁, B, X₁.warmed, X', hpost, fun target h => hstep₁ _ fun acts => by rw [doInvoke_state]; exact hsteps.trans h⟩
  · exact Or.inr ⟨q, vm₁, B, X₁.warmed, X', hpost, hstep₁ _ fun acts => by rw [doInvoke_state]; exact hsteps⟩
theorem vx_callS (X : Stand p l e R s m args below meth c T locs cells slots) (hexec : p.tables.exec = Jvm.exec) {own : String} {index : Nat} {y : MethodName} {bytes : ByteArray} {maxL : Nat} {ret : Option FieldType}
    (hown : s.vm.findClass own = some m.cls) (hlink : (Cond.methodLink own index y).before args s = true) (hstat : (Cond.static y).before args s = true) (hinit : (Cond.initialized y.cls).before args s = true)
    (hcode : (Cond.code y bytes maxL ret).before args s = true) (hy : y.cls ≠ "java/lang/invoke/MethodHandle" ∧ y.cls ≠ "java/lang/invoke/VarHandle")
    {W9 : Nat} {Pre : Pt → Array Value → Prop} {Post : Pt → Array Value → Option Value → Pt → Prop} {PostX : Pt → Array Value → Addr → Pt → Prop} (hK : vx_Back l R p e below s args y 3 W9 Pre Post PostX)
    {g : JFrame} (hg : g.method = m) (hsize : g.locals.size = c.maxLocals) {argsL rest : List Value} (hlen : ∀ sig, parseMethodDescriptor y.desc = some sig → argsL.length = sig.parameters.length)
    (hstack : g.stack = argsL.reverse ++ rest) (hW : 2 * g.monitorRoom + (rest.map fun v => v.category).sum ≤ W9) (hdg : decode c.code g.pc = .ok (.invokestatic index, 3))
    (hpre : ∀ vm₁, s.WarmedH vm₁ → Pre ⟨T.setVm vm₁, locs, cells, slots⟩ argsL.toArray) :
    (∃ (v : Option Value) (vm₁ : Vm) (B : Pt), s.WarmedH vm₁ ∧ Stand p l e R s m args below meth c B.U B.locs B.cells B.slots ∧ Post ⟨T.setVm vm₁, locs, cells, slots⟩ argsL.toArray v B ∧
      ∀ target, Steps p.tables e below (B.U.setTop { g with pc := g.pc + 3, stack := v.toList ++ rest }) target → Steps p.tables e below (T.setTop g) target) ∨
    (∃ (q : Addr) (vm₁ : Vm) (B : Pt), s.WarmedH vm₁ ∧ Stand p l e R s m args below meth c B.U B.locs B.cells B.slots ∧ PostX ⟨T.setVm vm₁, locs, cells, slots⟩ argsL.toArray q B ∧
      Steps p.tables e below (T.setTop g) ((B.U.setTop { g with stack := rest }).pushFrame (.throwing q))) := by
  obtain ⟨mk, hnamed⟩ := Cond.code_named hcode
  obtain ⟨methM, cM, hmethM, -, -, -, -, -, -, hsigM⟩ := Cond.code_spec hnamed hcode
  have hstatic : methM.isStatic = true := Cond.static_spec hnamed hmethM hstat
  obtain ⟨kP, hkP, -⟩ := className_of_methodNamed hnamed
  have hinitP : kP.init = .initialized := Cond.initialized_spec (findClass_of_methodNamed hnamed) hkP hinit
  obtain ⟨vm₁, X₁, hstep₁⟩ := X.invokestatic hexec hown hlink hnamed hmethM hstatic hkP hinitP hy (g := g) hg (argsL := argsL) (rest := rest) (hlen _ hsigM) hstack hdg
  rcases hK m meth c ⟨T.setVm vm₁, locs, cells, slots⟩ { g with stack := rest } (.invokestatic index) mk argsL.toArray X₁ hg hsize hdg hW (X₁.named hnamed) (hpre vm₁ X₁.warmed) with ⟨v, B, X', hpost, hsteps⟩ | ⟨q, B, X', hpost, hsteps⟩
  · exact Or.inl ⟨v, vm₁, B, X₁.warmed, X', hpost, fun target h => hstep₁ _ fun acts => by rw [doInvoke_state]; exact hsteps.trans h⟩
  · exact Or.inr ⟨q, vm₁, B, X₁.warmed, X', hpost, hstep₁ _ fun acts => by rw [doInvoke_state]; exact hsteps⟩
end Calls
theorem vx_cls {s : State} {T : State} {vm₁ : Vm} {E : String} {k : ClassId} (hW : s.WarmedH vm₁) (h : (T.setVm vm₁).vm.findClass E = some k) : s.vm.findClass E = some k := by
  have h1 : vm₁.findClass E = some k := h
  rw [hW.alike.findClass] at h1
  exact h1
/-- the method's frame g, with q thrown over it -/
def vx_W (p : Program) (l : Launch) (e : Env) (R : Room) (s : State) (m : MethodId) (args : Array Value) (below : List Frame) (meth : Method) (c : Code) (H : Heap) (locs : List Loc) (cells slots : Nat) (Q : State → Prop) (g : JFrame) (q : Addr) : Prop :=
  ∀ T : State, T.heap = H → Stand p l e R s m args below meth c T locs cells slots → ∃ t, Steps p.tables e below ((T.setTop g).pushFrame (.throwing q)) t ∧ Q t
def vx_Run (p : Program) (l : Launch) (e : Env) (R : Room) (s : State) (m : MethodId) (args : Array Value) (below : List Frame) (meth : Method) (c : Code) (H : Heap) (locs : List Loc) (cells slots mc ms : Nat) (g : JFrame) (rest : List Value) (Qa : State → Outcome → State → Prop) (XC : String → State → State → Prop) (free : Addr → Prop) : Prop :=
  ∀ T : State, T.heap = H → Stand p l e R s m args below meth c T locs cells slots →
    (∃ (v : Option Value) (st₀ t T' : State) (L : List Loc), st₀.heap = H ∧ Stand p l e R s m args below meth c T' (locs ++ L) (cells + mc) (slots + ms) ∧ (∀ q ∈ L, free q.base) ∧ T'.heap = t.heap ∧ T'.vm = t.vm ∧ Qa st₀ (.returned v) t ∧
      Goes p e below T g T' { g with pc := g.pc + 3, stack := v.toList ++ rest }) ∨
    (∃ (q : Addr) (st₀ t T' : State) (L : List Loc) (E : String) (ce : Cell), st₀.heap = H ∧ Stand p l e R s m args below meth c T' (locs ++ L) (cells + mc) (slots + ms) ∧ (∀ z ∈ L, free z.base) ∧ T'.heap = t.heap ∧ T'.vm = t.vm ∧ XC E st₀ t ∧ t.heap[q]? = some ce ∧ ce.vm = .none ∧ s.vm.findClass E = some ce.cls ∧
      Steps p.tables e below (T.setTop g) ((T'.setTop { g with stack := rest }).pushFrame (.throwing q)))
def vx_X {S : Type} (px : S → Prop) (B : String → S → State → Prop) (A : Nat → Prop) : String → State → State → Prop := fun E st t => ∃ u : S, px u ∧ B E u t ∧ va_F A st t
section Runs
variable {p : Program} {l : Launch} {e : Env} {R : Room} {s : State} {m : MethodId} {args : Array Value} {below : List Frame} {meth : Method} {c : Code} {H : Heap} {locs : List Loc} {cells slots : Nat}
variable {y : MethodName} {bytes cc : ByteArray} {maxL nL mc ms n index : Nat} {ret : Option FieldType} {ws : List Cond} {rm : Room} {Pc : Array Value → State → Prop} {Qc : Array Value → State → Outcome → State → Prop} {XC : String → State → State → Prop} {free : Addr → Prop} {Ts : List Cond} {own C : String} {b : Addr} {As rest : List Value} {g : JFrame}
theorem vx_callBack (cb : CallB R s args own index y bytes maxL ret ws rm mc ms n) (hM : vx_Met l y ws rm Pc Qc XC mc ms free) (hbl : FrameBlind Pc) : vx_Back l R p e below s args y 3 8 (PreOf R mc ms Pc) (PostOf Qc mc ms free) (vx_Post XC mc ms free) := by
  obtain ⟨hrc, hrs, hfr, hlo, hws, hcw, -, hini, -⟩ := cb
  exact vx_back (bytes := bytes) (maxL := maxL) (ret := ret) hM hbl hrc hrs hfr hlo hws hcw (fun a' U hW => word_at hW (Or.inl (by first | rfl | simp [Cond.onTables, Cond.keeps, Cond.steady])) hini)
theorem vx_runV (S : CallFix p m c cc nL s args Ts own) (hM : vx_Met l y ws rm Pc Qc XC mc ms free) (cw : CallW R s args own C index y bytes maxL ret ws rm mc ms n) (hp : PreV s H C b Pc As)
    (hg : g.method = m) (hn : As.length = n) (hsize : g.locals.size = nL) (hstack : g.stack = As.reverse ++ .ref b :: rest) (hW : 2 * g.monitorRoom + (rest.map fun v => v.category).sum ≤ 8) (hdg : decode cc g.pc = .ok (.invokevirtual index, 3)) (hf : cells + mc ≤ R.cells ∧ slots + ms ≤ R.slots) :
    vx_Run p l e R s m args below meth c H locs cells slots mc ms g rest (Qc (Value.ref b :: As).toArray) XC free := by
  have hK : vx_Back l R p e below s args y 3 8 (PreOf R mc ms Pc) (PostOf Qc mc ms free) (vx_Post XC mc ms free) := vx_callBack cw.1 hM hp.1
  obtain ⟨⟨-, -, -, -, -, -, hcode, -, hy, hlen, hl⟩, hin, hse⟩ := cw
  obtain ⟨hx, hb, hml, ho, -⟩ := S
  obtain ⟨-, ⟨cellB, hcB, hoB, hclB⟩, hPc⟩ := hp
  intro T hT X
  rcases vx_callV X hx (C := C) (bytes := bytes) (maxL := maxL) (ret := ret) ho hl hin hse hcode hy hK (by rw [hT]; exact hcB) hoB hclB hg (hsize.trans hml.symm) (argsL := As) (rest := rest) (fun sig h => hn.trans (hlen sig h)) hstack hW (by rw [hb]; exact hdg)
    (fun vm₁ hW₁ => ⟨hf.1, hf.2, hPc (T.setVm vm₁) hT hW₁⟩) with ⟨v, vm₁, ⟨U', l2, c2, s2⟩, hW₁, X', ⟨g', mk, t, L, e1, e2, hq, h1, hL, h2, h3⟩, st⟩ | ⟨q, vm₁, ⟨U', l2, c2, s2⟩, hW₁, X', ⟨g', mk, t, L, E, ce, e1, e2, hq, hce, hcv, hcl, h1, hL, h2, h3⟩, st⟩
  · dsimp only [Pt.U, Pt.locs, Pt.cells, Pt.slots] at X' e1 e2 h1 h2 h3 st
    subst h1; subst h2; subst h3
    exact Or.inl ⟨v, (T.setVm vm₁).calling g' mk (Value.ref b :: As).toArray, t, U', L, hT, X', hL, e1, e2, hq, st⟩
  · dsimp only [Pt.U, Pt.locs, Pt.cells, Pt.slots] at X' e1 e2 h1 h2 h3 st hcl
    subst h1; subst h2; subst h3
    exact Or.inr ⟨q, (T.setVm vm₁).calling g' mk (Value.ref b :: As).toArray, t, U', L, E, ce, hT, X', hL, e1, e2, hq, hce, hcv, vx_cls hW₁ hcl, st⟩
theorem vx_runS (S : CallFix p m c cc nL s args Ts own) (hM : vx_Met l y ws rm Pc Qc XC mc ms free) (cw : CallB R s args own index y bytes maxL ret ws rm mc ms n ∧ (Cond.static y).before args s = true) (hp : PreS s H Pc As)
    (hg : g.method = m) (hn : As.length = n) (hsize : g.locals.size = nL) (hstack : g.stack = As.reverse ++ rest) (hW : 2 * g.monitorRoom + (rest.map fun v => v.category).sum ≤ 8) (hdg : decode cc g.pc = .ok (.invokestatic index, 3)) (hf : cells + mc ≤ R.cells ∧ slots + ms ≤ R.slots) :
    vx_Run p l e R s m args below meth c H locs cells slots mc ms g rest (Qc As.toArray) XC free := by
  have hK : vx_Back l R p e below s args y 3 8 (PreOf R mc ms Pc) (PostOf Qc mc ms free) (vx_Post XC mc ms free) := vx_callBack cw.1 hM hp.1
  obtain ⟨⟨-, -, -, -, -, -, hcode, hini, hy, hlen, hl⟩, hstt⟩ := cw
  obtain ⟨hx, hb, hml, ho, -⟩ := S
  intro T hT X
  rcases vx_callS X hx (bytes := bytes) (maxL := maxL) (ret := ret) ho hl hstt hini hcode hy hK hg (hsize.trans hml.symm) (argsL := As) (rest := rest) (fun sig h => hn.trans (hlen sig h)) hstack hW (by rw [hb]; exact hdg)
    (fun vm₁ hW₁ => ⟨hf.1, hf.2, hp.2 (T.setVm vm₁) hT hW₁⟩) with ⟨v, vm₁, ⟨U', l2, c2, s2⟩, hW₁, X', ⟨g', mk, t, L, e1, e2, hq, h1, hL, h2, h3⟩, st⟩ | ⟨q, vm₁, ⟨U', l2, c2, s2⟩, hW₁, X', ⟨g', mk, t, L, E, ce, e1, e2, hq, hce, hcv, hcl, h1, hL, h2, h3⟩, st⟩
  · dsimp only [Pt.U, Pt.locs, Pt.cells, Pt.slots] at X' e1 e2 h1 h2 h3 st
    subst h1; subst h2; subst h3
    exact Or.inl ⟨v, (T.setVm vm₁).calling g' mk As.toArray, t, U', L, hT, X', hL, e1, e2, hq, st⟩
  · dsimp only [Pt.U, Pt.locs, Pt.cells, Pt.slots] at X' e1 e2 h1 h2 h3 st hcl
    subst h1; subst h2; subst h3
    exact Or.inr ⟨q, (T.setVm vm₁).calling g' mk As.toArray, t, U', L, E, ce, hT, X', hL, e1, e2, hq, hce, hcv, vx_cls hW₁ hcl, st⟩
end Runs
section Rows
variable {p : Program} {l : Launch} {e : Env} {R : Room} {s : State} {m : MethodId} {args : Array Value} {below : List Frame} {meth : Method} {c : Code} {H : Heap} {locs : List Loc} {cells slots : Nat} {Q : State → Prop}
variable {mc ms : Nat} {free : Addr → Prop} {A0 A1 : Nat → Prop} {H0 : Heap} {a : Array Value} {pc : Nat} {ls : Array Slot} {st0 rest : List Value}
theorem vx_keep {st₀ t T' : State} {L : List Loc} (h0 : st₀.heap = H) (e1 : T'.heap = t.heap) (hS : va_S A0 H0 H locs) (hA : ∀ q, q < H.size → A1 q → A0 q) (hf : ∀ q, free q → A0 q) (hL : ∀ q ∈ L, free q.base) (hF : va_F A1 st₀ t) :
    H.size ≤ T'.heap.size ∧ (∀ q : Nat, q < H.size → ¬ A1 q → T'.heap[q]? = H[q]?) ∧ va_S A0 H0 T'.heap (locs ++ L) := by
  obtain ⟨hz, hk⟩ := hF
  rw [h0] at hz hk
  exact ⟨by rw [e1]; exact hz, fun q h1 h2 => by rw [e1]; exact hk q h1 h2,
    ⟨Nat.le_trans hS.1 (by rw [e1]; exact hz), fun q h1 h2 => by rw [e1, hk q (Nat.lt_of_lt_of_le h1 hS.1) (fun z => h2 (hA q (Nat.lt_of_lt_of_le h1 hS.1) z))]; exact hS.2.1 q h1 h2, fun q hq => by
      rcases List.mem_append.mp hq with h | h
      · exact hS.2.2 q h
      · exact hf _ (hL q h)⟩⟩
theorem vx_calli {S SX : Type} {post : Int32 → S → Prop} {px : SX → Prop} {B : S → State → Prop} {BX : String → SX → State → Prop} {AX : Nat → Prop} (hr : vx_Run p l e R s m args below meth c H locs cells slots mc ms (F0 m pc ls st0) rest (va_Qi post B A1 a) (vx_X px BX AX) free) (hS : va_S A0 H0 H locs) (hA : ∀ q, q < H.size → A1 q → A0 q) (hf : ∀ q, free q → A0 q) (hAX : ∀ q, q < H.size → AX q → A0 q)
    (kx : ∀ (E : String) (ce : Cell) (q9 : Addr) (u : SX) (t : State) (H1 : Heap) (locs1 : List Loc), t.heap = H1 → s.vm.Alike t.vm → px u → BX E u t → H.size ≤ H1.size → (∀ q : Nat, q < H.size → ¬ AX q → H1[q]? = H[q]?) → va_S A0 H0 H1 locs1 → H1[q9]? = some ce → ce.vm = .none → s.vm.findClass E = some ce.cls → vx_W p l e R s m args below meth c H1 locs1 (cells + mc) (slots + ms) Q (F0 m pc ls rest) q9)
    (kk : ∀ (r : Int32) (u : S) (t : State) (H1 : Heap) (locs1 : List Loc), t.heap = H1 → s.vm.Alike t.vm → post r u → B u t → H.size ≤ H1.size → (∀ q : Nat, q < H.size → ¬ A1 q → H1[q]? = H[q]?) → va_S A0 H0 H1 locs1 → W p l e R s m args below meth c H1 locs1 (cells + mc) (slots + ms) Q (F0 m (pc + 3) ls (.int r :: rest))) : W p l e R s m args below meth c H locs cells slots Q (F0 m pc ls st0) := by
  intro T hT X
  rcases hr T hT X with ⟨v, st₀, t, T', L, h0, X', hL, e1, e2, ⟨⟨r, u, hv, hp, hb⟩, hF⟩, st⟩ | ⟨q, st₀, t, T', L, E, ce, h0, X', hL, e1, e2, ⟨u, hp, hb, hF⟩, hce, hcv, hcl, st⟩
  · cases hv
    obtain ⟨k1, k2, k3⟩ := vx_keep h0 e1 hS hA hf hL hF
    obtain ⟨t2, a1, b1⟩ := kk r u t T'.heap (locs ++ L) e1.symm (by rw [← e2]; exact X'.warmed.alike) hp hb k1 k2 k3 T' rfl X'
    exact ⟨t2, st t2 a1, b1⟩
  · obtain ⟨k1, k2, k3⟩ := vx_keep h0 e1 hS hAX hf hL hF
    obtain ⟨t2, a1, b1⟩ := kx E ce q u t T'.heap (locs ++ L) e1.symm (by rw [← e2]; exact X'.warmed.alike) hp hb k1 k2 k3 (by rw [e1]; exact hce) hcv hcl T' rfl X'
    exact ⟨t2, st.trans a1, b1⟩
theorem vx_calll {S SX : Type} {post : Int64 → S → Prop} {px : SX → Prop} {B : S → State → Prop} {BX : String → SX → State → Prop} {AX : Nat → Prop} (hr : vx_Run p l e R s m args below meth c H locs cells slots mc ms (F0 m pc ls st0) rest (va_Ql post B A1 a) (vx_X px BX AX) free) (hS : va_S A0 H0 H locs) (hA : ∀ q, q < H.size → A1 q → A0 q) (hf : ∀ q, free q → A0 q) (hAX : ∀ q, q < H.size → AX q → A0 q)
    (kx : ∀ (E : String) (ce : Cell) (q9 : Addr) (u : SX) (t : State) (H1 : Heap) (locs1 : List Loc), t.heap = H1 → s.vm.Alike t.vm → px u → BX E u t → H.size ≤ H1.size → (∀ q : Nat, q < H.size → ¬ AX q → H1[q]? = H[q]?) → va_S A0 H0 H1 locs1 → H1[q9]? = some ce → ce.vm = .none → s.vm.findClass E = some ce.cls → vx_W p l e R s m args below meth c H1 locs1 (cells + mc) (slots + ms) Q (F0 m pc ls rest) q9)
    (kk : ∀ (r : Int64) (u : S) (t : State) (H1 : Heap) (locs1 : List Loc), t.heap = H1 → s.vm.Alike t.vm → post r u → B u t → H.size ≤ H1.size → (∀ q : Nat, q < H.size → ¬ A1 q → H1[q]? = H[q]?) → va_S A0 H0 H1 locs1 → W p l e R s m args below meth c H1 locs1 (cells + mc) (slots + ms) Q (F0 m (pc + 3) ls (.long r :: rest))) : W p l e R s m args below meth c H locs cells slots Q (F0 m pc ls st0) := by
  intro T hT X
  rcases hr T hT X with ⟨v, st₀, t, T', L, h0, X', hL, e1, e2, ⟨⟨r, u, hv, hp, hb⟩, hF⟩, st⟩ | ⟨q, st₀, t, T', L, E, ce, h0, X', hL, e1, e2, ⟨u, hp, hb, hF⟩, hce, hcv, hcl, st⟩
  · cases hv
    obtain ⟨k1, k2, k3⟩ := vx_keep h0 e1 hS hA hf hL hF
    obtain ⟨t2, a1, b1⟩ := kk r u t T'.heap (locs ++ L) e1.symm (by rw [← e2]; exact X'.warmed.alike) hp hb k1 k2 k3 T' rfl X'
    exact ⟨t2, st t2 a1, b1⟩
  · obtain ⟨k1, k2, k3⟩ := vx_keep h0 e1 hS hAX hf hL hF
    obtain ⟨t2, a1, b1⟩ := kx E ce q u t T'.heap (locs ++ L) e1.symm (by rw [← e2]; exact X'.warmed.alike) hp hb k1 k2 k3 (by rw [e1]; exact hce) hcv hcl T' rfl X'
    exact ⟨t2, st.trans a1, b1⟩
theorem vx_callf {S SX : Type} {post : UInt32 → S → Prop} {px : SX → Prop} {B : S → State → Prop} {BX : String → SX → State → Prop} {AX : Nat → Prop} (hr : vx_Run p l e R s m args below meth c H locs cells slots mc ms (F0 m pc ls st0) rest (va_Qf post B A1 a) (vx_X px BX AX) free) (hS : va_S A0 H0 H locs) (hA : ∀ q, q < H.size → A1 q → A0 q) (hf : ∀ q, free q → A0 q) (hAX : ∀ q, q < H.size → AX q → A0 q)
    (kx : ∀ (E : String) (ce : Cell) (q9 : Addr) (u : SX) (t : State) (H1 : Heap) (locs1 : List Loc), t.heap = H1 → s.vm.Alike t.vm → px u → BX E u t → H.size ≤ H1.size → (∀ q : Nat, q < H.size → ¬ AX q → H1[q]? = H[q]?) → va_S A0 H0 H1 locs1 → H1[q9]? = some ce → ce.vm = .none → s.vm.findClass E = some ce.cls → vx_W p l e R s m args below meth c H1 locs1 (cells + mc) (slots + ms) Q (F0 m pc ls rest) q9)
    (kk : ∀ (r : UInt32) (u : S) (t : State) (H1 : Heap) (locs1 : List Loc), t.heap = H1 → s.vm.Alike t.vm → post r u → B u t → H.size ≤ H1.size → (∀ q : Nat, q < H.size → ¬ A1 q → H1[q]? = H[q]?) → va_S A0 H0 H1 locs1 → W p l e R s m args below meth c H1 locs1 (cells + mc) (slots + ms) Q (F0 m (pc + 3) ls (.float r :: rest))) : W p l e R s m args below meth c H locs cells slots Q (F0 m pc ls st0) := by
  intro T hT X
  rcases hr T hT X with ⟨v, st₀, t, T', L, h0, X', hL, e1, e2, ⟨⟨r, u, hv, hp, hb⟩, hF⟩, st⟩ | ⟨q, st₀, t, T', L, E, ce, h0, X', hL, e1, e2, ⟨u, hp, hb, hF⟩, hce, hcv, hcl, st⟩
  · cases hv
    obtain ⟨k1, k2, k3⟩ := vx_keep h0 e1 hS hA hf hL hF
    obtain ⟨t2, a1, b1⟩ := kk r u t T'.heap (locs ++ L) e1.symm (by rw [← e2]; exact X'.warmed.alike) hp hb k1 k2 k3 T' rfl X'
    exact ⟨t2, st t2 a1, b1⟩
  · obtain ⟨k1, k2, k3⟩ := vx_keep h0 e1 hS hAX hf hL hF
    obtain ⟨t2, a1, b1⟩ := kx E ce q u t T'.heap (locs ++ L) e1.symm (by rw [← e2]; exact X'.warmed.alike) hp hb k1 k2 k3 (by rw [e1]; exact hce) hcv hcl T' rfl X'
    exact ⟨t2, st.trans a1, b1⟩
theorem vx_calld {S SX : Type} {post : UInt64 → S → Prop} {px : SX → Prop} {B : S → State → Prop} {BX : String → SX → State → Prop} {AX : Nat → Prop} (hr : vx_Run p l e R s m args below meth c H locs cells slots mc ms (F0 m pc ls st0) rest (va_Qd post B A1 a) (vx_X px BX AX) free) (hS : va_S A0 H0 H locs) (hA : ∀ q, q < H.size → A1 q → A0 q) (hf : ∀ q, free q → A0 q) (hAX : ∀ q, q < H.size → AX q → A0 q)
    (kx : ∀ (E : String) (ce : Cell) (q9 : Addr) (u : SX) (t : State) (H1 : Heap) (locs1 : List Loc), t.heap = H1 → s.vm.Alike t.vm → px u → BX E u t → H.size ≤ H1.size → (∀ q : Nat, q < H.size → ¬ AX q → H1[q]? = H[q]?) → va_S A0 H0 H1 locs1 → H1[q9]? = some ce → ce.vm = .none → s.vm.findClass E = some ce.cls → vx_W p l e R s m args below meth c H1 locs1 (cells + mc) (slots + ms) Q (F0 m pc ls rest) q9)
    (kk : ∀ (r : UInt64) (u : S) (t : State) (H1 : Heap) (locs1 : List Loc), t.heap = H1 → s.vm.Alike t.vm → post r u → B u t → H.size ≤ H1.size → (∀ q : Nat, q < H.size → ¬ A1 q → H1[q]? = H[q]?) → va_S A0 H0 H1 locs1 → W p l e R s m args below meth c H1 locs1 (cells + mc) (slots + ms) Q (F0 m (pc + 3) ls (.double r :: rest))) : W p l e R s m args below meth c H locs cells slots Q (F0 m pc ls st0) := by
  intro T hT X
  rcases hr T hT X with ⟨v, st₀, t, T', L, h0, X', hL, e1, e2, ⟨⟨r, u, hv, hp, hb⟩, hF⟩, st⟩ | ⟨q, st₀, t, T', L, E, ce, h0, X', hL, e1, e2, ⟨u, hp, hb, hF⟩, hce, hcv, hcl, st⟩
  · cases hv
    obtain ⟨k1, k2, k3⟩ := vx_keep h0 e1 hS hA hf hL hF
    obtain ⟨t2, a1, b1⟩ := kk r u t T'.heap (locs ++ L) e1.symm (by rw [← e2]; exact X'.warmed.alike) hp hb k1 k2 k3 T' rfl X'
    exact ⟨t2, st t2 a1, b1⟩
  · obtain ⟨k1, k2, k3⟩ := vx_keep h0 e1 hS hAX hf hL hF
    obtain ⟨t2, a1, b1⟩ := kx E ce q u t T'.heap (locs ++ L) e1.symm (by rw [← e2]; exact X'.warmed.alike) hp hb k1 k2 k3 (by rw [e1]; exact hce) hcv hcl T' rfl X'
    exact ⟨t2, st.trans a1, b1⟩
theorem vx_callv {S SX : Type} {post : S → Prop} {px : SX → Prop} {B : S → State → Prop} {BX : String → SX → State → Prop} {AX : Nat → Prop} (hr : vx_Run p l e R s m args below meth c H locs cells slots mc ms (F0 m pc ls st0) rest (va_Qv post B A1 a) (vx_X px BX AX) free) (hS : va_S A0 H0 H locs) (hA : ∀ q, q < H.size → A1 q → A0 q) (hf : ∀ q, free q → A0 q) (hAX : ∀ q, q < H.size → AX q → A0 q)
    (kx : ∀ (E : String) (ce : Cell) (q9 : Addr) (u : SX) (t : State) (H1 : Heap) (locs1 : List Loc), t.heap = H1 → s.vm.Alike t.vm → px u → BX E u t → H.size ≤ H1.size → (∀ q : Nat, q < H.size → ¬ AX q → H1[q]? = H[q]?) → va_S A0 H0 H1 locs1 → H1[q9]? = some ce → ce.vm = .none → s.vm.findClass E = some ce.cls → vx_W p l e R s m args below meth c H1 locs1 (cells + mc) (slots + ms) Q (F0 m pc ls rest) q9)
    (kk : ∀ (u : S) (t : State) (H1 : Heap) (locs1 : List Loc), t.heap = H1 → s.vm.Alike t.vm → post u → B u t → H.size ≤ H1.size → (∀ q : Nat, q < H.size → ¬ A1 q → H1[q]? = H[q]?) → va_S A0 H0 H1 locs1 → W p l e R s m args below meth c H1 locs1 (cells + mc) (slots + ms) Q (F0 m (pc + 3) ls (rest))) : W p l e R s m args below meth c H locs cells slots Q (F0 m pc ls st0) := by
  intro T hT X
  rcases hr T hT X with ⟨v, st₀, t, T', L, h0, X', hL, e1, e2, ⟨⟨u, hv, hp, hb⟩, hF⟩, st⟩ | ⟨q, st₀, t, T', L, E, ce, h0, X', hL, e1, e2, ⟨u, hp, hb, hF⟩, hce, hcv, hcl, st⟩
  · cases hv
    obtain ⟨k1, k2, k3⟩ := vx_keep h0 e1 hS hA hf hL hF
    obtain ⟨t2, a1, b1⟩ := kk u t T'.heap (locs ++ L) e1.symm (by rw [← e2]; exact X'.warmed.alike) hp hb k1 k2 k3 T' rfl X'
    exact ⟨t2, st t2 a1, b1⟩
  · obtain ⟨k1, k2, k3⟩ := vx_keep h0 e1 hS hAX hf hL hF
    obtain ⟨t2, a1, b1⟩ := kx E ce q u t T'.heap (locs ++ L) e1.symm (by rw [← e2]; exact X'.warmed.alike) hp hb k1 k2 k3 (by rw [e1]; exact hce) hcv hcl T' rfl X'
    exact ⟨t2, st.trans a1, b1⟩
/-- caught by the row x of this method's table; the rows ahead don't take it -/
theorem vx_catch {own name : String} {E : String} {ce : Cell} {q : Addr} (hown : s.vm.findClass own = some m.cls) (pre : List ExceptionTableEntry) (x : ExceptionTableEntry) (suf : List ExceptionTableEntry) (hsplit : c.exceptionTable.toList = pre ++ x :: suf)
    (hpass : ∀ z ∈ pre, covers z pc = false ∨ (z.catchType ≠ 0 ∧ ∃ nm : String, (Cond.classLink own z.catchType nm).before args s = true ∧ va_Nc E nm s)) (hx : covers x pc = true) (h0 : x.catchType ≠ 0)
    (hlink : (Cond.classLink own x.catchType name).before args s = true) (hcast : (Cond.castable E name).before args s = true) (hcell : H[q]? = some ce) (hv : ce.vm = .none) (hcl : s.vm.findClass E = some ce.cls)
    (kk : W p l e R s m args below meth c H locs cells slots Q (F0 m x.handlerPc ls [.ref q])) : vx_W p l e R s m args below meth c H locs cells slots Q (F0 m pc ls rest) q := by
  intro T hT X
  have hpl : e.platform.magicAccessors = ({} : Platform).magicAccessors := by rw [X.admits.platform]
  obtain ⟨c3, c4, hc3, hc4, hasg⟩ := Cond.castable_spec hcast
  cases Option.some.inj (hc3.symm.trans hcl)
  obtain ⟨c5, hc5, hcl5⟩ := Cond.classLink_spec hown hlink e.platform hpl
  cases Option.some.inj (hc4.symm.trans hc5)
  obtain ⟨vm', X', st⟩ := X.thenCaughtThrough q (g := F0 m pc ls rest) rfl (Steps.refl _) (by rw [hT]; exact hcell) (by rw [hv]; rfl) (by obtain ⟨k9, h9, -⟩ := Vm.findClass_spec hcl; exact ⟨k9, h9⟩) pre x suf hsplit
    (fun z hz => by
      rcases hpass z hz with h | ⟨hz0, nm, hl1, hn1⟩
      · exact Or.inl h
      · obtain ⟨c6, hc6, hcl6⟩ := Cond.classLink_spec hown hl1 e.platform hpl
        obtain ⟨a8, b8, h1, h2, h3⟩ := hn1
        cases Option.some.inj (h1.symm.trans hcl)
        cases Option.some.inj (h2.symm.trans hc6)
        exact Or.inr ⟨hz0, _, hcl6, h3⟩) hx (Or.inr ⟨h0, c4, hcl5, hasg⟩)
  obtain ⟨t, a1, b1⟩ := kk (T.setVm vm') hT X'
  exact ⟨t, st.trans a1, b1⟩
end Rows
section Ends
variable {p : Program} {l : Launch} {e : Env} {R : Room} {s : State} {m : MethodId} {args : Array Value} {below : List Frame} {meth : Method} {c : Code} {H : Heap} {locs : List Loc} {cells slots : Nat} {Q : State → Prop}
variable {mc ms : Nat} {free : Addr → Prop} {A0 A1 : Nat → Prop} {H0 : Heap} {a : Array Value} {ls : Array Slot} {st0 rest : List Value}
variable {Qc : Array Value → State → Outcome → State → Prop} {XC : String → State → State → Prop}
/-- what a body that may throw owes at its end -/
def vx_MQ (below : List Frame) (Qc : Array Value → State → Outcome → State → Prop) (XC : String → State → State → Prop) (a : Array Value) (s : State) (mc ms : Nat) (free : Addr → Prop) : State → Prop := fun t =>
  ∃ o, t.status = .running ∧ Ended t below o ∧ vx_Q Qc XC mc ms free a s o t
theorem vx_ret {g : JFrame} {mc ms : Nat} (k : W p l e R s m args below meth c H locs cells slots (MQ below Qc args s mc ms free) g) : W p l e R s m args below meth c H locs cells slots (vx_MQ below Qc XC args s mc ms free) g := by
  intro T hT X
  obtain ⟨t, a1, o, b1, b2, b3, b4⟩ := k T hT X
  exact ⟨t, a1, o, b1, b2, Or.inl ⟨b3, b4⟩⟩
/-- not caught here: it goes on to the caller -/
theorem vx_widen {g : JFrame} {q : Addr} {k n : Nat} (h1 : cells ≤ k) (h2 : slots ≤ n) (kk : vx_W p l e R s m args below meth c H locs k n Q g q) : vx_W p l e R s m args below meth c H locs cells slots Q g q := fun T hT X => kk T hT (stand_widen X h1 h2)
theorem vx_out {pc : Nat} {E : String} {ce : Cell} {q : Addr} {mc ms : Nat} (hout : ∀ x ∈ c.exceptionTable.toList, covers x pc = false) (hlocks : meth.locks = false) (hcell : H[q]? = some ce) (hv : ce.vm = .none) (hcl : s.vm.findClass E = some ce.cls)
    (hx : ∀ t : State, t.heap = H → s.vm.Alike t.vm → XC E s t) (hf : ∀ z ∈ locs, free z.base) (hc : cells ≤ mc) (hs : slots ≤ ms) :
    vx_W p l e R s m args below meth c H locs cells slots (vx_MQ below Qc XC args s mc ms free) (F0 m pc ls rest) q := by
  intro T hT X
  obtain ⟨st1, hrun, hend, hW, hsm⟩ := X.leaveThrown q (g := F0 m pc ls rest) rfl rfl rfl hout hlocks
  have hcell9 : (T.setFrames (.throwing q :: below)).heap[q]? = some ce := by
    show T.heap[q]? = some ce
    rw [hT]; exact hcell
  exact ⟨_, st1, .threw q, hrun, hend, Or.inr ⟨q, rfl, E, ce, locs, hx _ hT hW.alike, hcell9, hv, hcl, hW, hsm.mono hc hs, hf⟩⟩
theorem vx_frame {U : State} {k n : Nat} (h : s.sameButNew ({ U with vm := s.vm } : State) locs k n) : s.heap.size ≤ U.heap.size ∧ ∀ q : Nat, q < s.heap.size → (∀ z ∈ locs, z.base ≠ q) → U.heap[q]? = s.heap[q]? := by
  obtain ⟨-, h2, -, -, -, h6⟩ := h
  refine ⟨h2, fun q hq hz => ?_⟩
  obtain ⟨c9, e1, e2, e3, e4⟩ := h6 q _ (Array.getElem?_eq_getElem hq)
  have hs : c9.slots = (s.heap[q]).slots := Array.ext_getElem? fun i => e4 i fun hm => hz _ hm rfl
  have h9 : c9 = s.heap[q] := by
    rw [hs] at e2
    exact e2
  have e5 : U.heap[q]? = some c9 := e1
  rw [e5, h9, Array.getElem?_eq_getElem hq]
/-- the words of a throw but the four that speak of the heap -/
def vx_no (w : Cond) : Bool := decide (w ≠ .isRef (.static Bundle.tN "UNASSIGNED_STACK" Bundle.steD)) && decide (w ≠ .isRef (.static Bundle.tN "SUPPRESSED_SENTINEL" Bundle.listD)) && decide (w ≠ .laysStatic Bundle.tN "UNASSIGNED_STACK" Bundle.steD) && decide (w ≠ .laysStatic Bundle.tN "SUPPRESSED_SENTINEL" Bundle.listD)
def vx_at0 (own : String) (ic : Nat) (X : String) (names : List String) : List Cond := (Bundle.ownAtoms0 own ic X names).filter vx_no
def vx_atS (own : String) (ic : Nat) (X : String) (names : List String) : List Cond := (Bundle.ownAtoms own ic X names).filter vx_no
/-- a word that the tables alone decide, or a good one -/
def vx_ot (w : Cond) : Bool := w.onTables || goodWord w
theorem vx_ot_at {args a' : Array Value} {s U : State} {w : Cond} (hW : s.WarmedH U.vm) (hvm : s.vm = U.vm) (hg : vx_ot w = true) (h : w.before args s = true) : w.before a' U = true := by
  simp only [vx_ot, Bool.or_eq_true] at hg
  rcases hg with hg | hg
  · exact va_tabs hg hvm h
  · exact word_at hW (good_of_word hg) h
/-- a list's words: the good ones out of the method's own list, the others by premises of their own -/
theorem vx_hat {args : Array Value} {s : State} {L B : List Cond} (h1 : ∀ w ∈ L.filter goodWord, w.before args s = true) (h2 : ∀ w ∈ L.filter (fun w => !goodWord w), w ∈ B) (h3 : ∀ w ∈ B, w.before args s = true) : ∀ w ∈ L, w.before args s = true := by
  intro w hw
  by_cases g : goodWord w = true
  · exact h1 w (List.mem_filter.mpr ⟨hw, g⟩)
  · refine h3 w (h2 w (List.mem_filter.mpr ⟨hw, ?_⟩))
    show (!goodWord w) = true
    cases hgw : goodWord w
    · rfl
    · exact absurd hgw g
theorem vx_c {args : Array Value} {s : State} {w : Cond} {B : List Cond} (h : w.before args s = true) (t : ∀ w ∈ B, w.before args s = true) : ∀ w' ∈ w :: B, w'.before args s = true := fun w' h' => (List.mem_cons.mp h').elim (fun e => by rw [e]; exact h) (t w')
theorem vx_n {args : Array Value} {s : State} : ∀ w ∈ ([] : List Cond), w.before args s = true := fun _ h => nomatch h
theorem vx_own {args : Array Value} {s : State} {L : List Cond} (h1 : ∀ w ∈ L.filter vx_no, w.before args s = true)
    (hU : (Cond.isRef (.static Bundle.tN "UNASSIGNED_STACK" Bundle.steD)).before args s = true) (hN : (Cond.isRef (.static Bundle.tN "SUPPRESSED_SENTINEL" Bundle.listD)).before args s = true)
    (lU : (Cond.laysStatic Bundle.tN "UNASSIGNED_STACK" Bundle.steD).before args s = true) (lN : (Cond.laysStatic Bundle.tN "SUPPRESSED_SENTINEL" Bundle.listD).before args s = true) : ∀ w ∈ L, w.before args s = true := by
  intro w hw
  by_cases e1 : w = .isRef (.static Bundle.tN "UNASSIGNED_STACK" Bundle.steD)
  · rw [e1]; exact hU
  · by_cases e2 : w = .isRef (.static Bundle.tN "SUPPRESSED_SENTINEL" Bundle.listD)
    · rw [e2]; exact hN
    · by_cases e3 : w = .laysStatic Bundle.tN "UNASSIGNED_STACK" Bundle.steD
      · rw [e3]; exact lU
      · by_cases e4 : w = .laysStatic Bundle.tN "SUPPRESSED_SENTINEL" Bundle.listD
        · rw [e4]; exact lN
        · exact h1 w (List.mem_filter.mpr ⟨hw, by unfold vx_no; rw [decide_eq_true e1, decide_eq_true e2, decide_eq_true e3, decide_eq_true e4]; rfl⟩)
/-- where a static field lies, its class's statics cell in H -/
def vx_L (C n d : String) (A : Nat → Prop) (U : State) (H : Heap) : Prop := ∃ (c : ClassId) (k : Class) (i : Nat) (f : Field) (a : Nat) (cell : Cell), U.vm.findClass C = some c ∧ U.fieldFound? C n d = some (c, k, i, f) ∧ f.isStatic = true ∧ k.statics = some a ∧ H[a]? = some cell ∧ cell.vm.isStatics = true ∧ cell.cls = c ∧ f.slot < cell.slots.size ∧ k.staticTypes[f.slot]? = some f.type ∧ ¬ A a
theorem vx_L.moved {C n d : String} {A : Nat → Prop} {u U : State} {H : Heap} (hvm : u.vm.Alike U.vm) (h : vx_L C n d A u H) : vx_L C n d A U H := by
  obtain ⟨c, k, i, f, a, cell, h1, h2, h3, h4, h5, h6, h7, h8, h9, h10⟩ := h
  obtain ⟨k', hi', he⟩ := State.fieldFound?_setVm hvm h2
  exact ⟨c, k', i, f, a, cell, by rw [hvm.findClass]; exact h1, hi', h3, by rw [he]; exact h4, h5, h6, h7, h8, by rw [he]; exact h9, h10⟩
theorem vx_L.kept {C n d : String} {A : Nat → Prop} {U : State} {H H1 : Heap} (h : vx_L C n d A U H) (hq : ∀ a : Nat, a < H.size → ¬ A a → H1[a]? = H[a]?) : vx_L C n d A U H1 := by
  obtain ⟨c, k, i, f, a, cell, h1, h2, h3, h4, h5, h6, h7, h8, h9, h10⟩ := h
  exact ⟨c, k, i, f, a, cell, h1, h2, h3, h4, by rw [hq a (Array.getElem?_eq_some_iff.mp h5).1 h10]; exact h5, h6, h7, h8, h9, h10⟩
theorem vx_L.narrow {C n d : String} {A B : Nat → Prop} {U : State} {H : Heap} (h : vx_L C n d A U H) (hAB : ∀ q, B q → A q) : vx_L C n d B U H := by
  obtain ⟨c, k, i, f, a, cell, h1, h2, h3, h4, h5, h6, h7, h8, h9, h10⟩ := h
  exact ⟨c, k, i, f, a, cell, h1, h2, h3, h4, h5, h6, h7, h8, h9, fun z => h10 (hAB _ z)⟩
theorem vx_L.word {C n d : String} {A : Nat → Prop} {s : State} {args : Array Value} (h : vx_L C n d A s s.heap) : (Cond.laysStatic C n d).before args s = true := by
  obtain ⟨c, k, i, f, a, cell, h1, h2, h3, h4, h5, h6, h7, h8, h9, -⟩ := h
  show (Cond.laysStatic C n d).holds args s none s [] = true
  exact Cond.laysStatic_of h1 h2 h3 h4 h5 h6 h7 h8 h9
/-- .. and what it holds: null or some reference -/
def vx_Zq (C n d : String) (A : Nat → Prop) (U : State) (H : Heap) : Prop := va_Zq C n d A U H ∧ vx_L C n d A U H
theorem vx_Zq.moved {C n d : String} {A : Nat → Prop} {u U : State} {H : Heap} (hvm : u.vm.Alike U.vm) (h : vx_Zq C n d A u H) : vx_Zq C n d A U H := ⟨va_Zq.moved hvm h.1, vx_L.moved hvm h.2⟩
theorem vx_Zq.kept {C n d : String} {A : Nat → Prop} {U : State} {H H1 : Heap} (h : vx_Zq C n d A U H) (hq : ∀ a : Nat, a < H.size → ¬ A a → H1[a]? = H[a]?) : vx_Zq C n d A U H1 := ⟨va_Zq.kept h.1 hq, vx_L.kept h.2 hq⟩
theorem vx_Zq.narrow {C n d : String} {A B : Nat → Prop} {U : State} {H : Heap} (h : vx_Zq C n d A U H) (hAB : ∀ q, B q → A q) : vx_Zq C n d B U H := ⟨va_Zq.narrow h.1 hAB, vx_L.narrow h.2 hAB⟩
theorem vx_Zqof {args : Array Value} {s : State} {C n d : String} {A : Nat → Prop} (hl : (Cond.laysStatic C n d).before args s = true) (hini : (Cond.initialized C).before args s = true) (h : (Cond.isRef (.static C n d)).before args s = true) (hA : ∀ a : Nat, a < s.heap.size → ¬ A a) : vx_Zq C n d A s s.heap := by
  refine ⟨va_Zqof hl hini h hA, ?_⟩
  obtain ⟨c, k, i, f, a, cell, h1, h2, h3, h4, h5, h6, h7, h8, h9⟩ := Cond.laysStatic_spec hl
  exact ⟨c, k, i, f, a, cell, h1, h2, h3, h4, h5, h6, h7, h8, h9, hA a (Array.getElem?_eq_some_iff.mp h5).1⟩
theorem vx_isRef {C n d : String} {v : Value} {A : Nat → Prop} {s : State} {args : Array Value} (h : va_Z C n d v A s s.heap) (hv : v.isRef = true) : (Cond.isRef (.static C n d)).before args s = true := by
  obtain ⟨cf, kf, fi, f, a, cell, h1, h2, h3, h4, h5, h6, h7, -⟩ := h
  have he : (Term.static C n d).eval args s none [] s = some v := by
    simp [Term.eval, State.fieldNamed?, h1, h2, h4, h5, h6, h7]
  simp only [Cond.before, Cond.holds, Cond.value, he]
  cases v <;> simp_all [Value.isRef]
theorem vx_isRefq {C n d : String} {A : Nat → Prop} {s : State} {args : Array Value} (h : va_Zq C n d A s s.heap) : (Cond.isRef (.static C n d)).before args s = true := by
  rcases h with h | ⟨t, h⟩
  · exact vx_isRef h rfl
  · exact vx_isRef h rfl
/-- the same frame, seen from here: as if the method were called anew in this heap -/
theorem vx_rebase {T : State} (X : Stand p l e R s m args below meth c T locs cells slots) {R' : Room} (hf : R'.frames ≤ R.frames) (hl : R'.locals ≤ R.locals) (hc : cells + R'.cells ≤ R.cells) (hs : slots + R'.slots ≤ R.slots) :
    Stand p l e R' ((T.setVm s.vm).setFrames (.invoking m args :: below)) m args below meth c T [] 0 0 := by
  have htop : (T.setVm s.vm).topJava?.isSome := X.here.top
  have hF : ((T.setVm s.vm).setFrames (.invoking m args :: below)).frames = .invoking m args :: below := State.frames_setFrames _ (State.cur_lt_of_top htop)
  obtain ⟨g₀, hg0⟩ := Option.isSome_iff_exists.mp htop
  obtain ⟨r, hr⟩ := State.topJava?_eq_some.mp hg0
  have hl9 : e.platform.stackLimits (T.setVm s.vm).me = e.platform.stackLimits s.me := X.limits
  have hb9 : (T.setVm s.vm).me.stackBytes = s.me.stackBytes := X.bytes
  refine ⟨X.admits, X.cas, X.clock, hF, ?_, X.hears, X.method, X.code, X.here, X.tail, X.warmed, ?_, ?_, ?_⟩
  · have h := X.room
    have hU : ((T.setVm s.vm).setFrames (.invoking m args :: below)).localsInUse = s.localsInUse := by
      rw [State.localsInUse_invoking hF (meth := meth) (c := c) X.method X.code, State.localsInUse_invoking X.frames X.method X.code]
    simp only [State.hasRoom, Bool.and_eq_true, decide_eq_true_eq] at h ⊢
    obtain ⟨⟨⟨⟨h1, h2, h3, h4, h5, h6⟩, h7⟩, h8⟩, h9⟩ := h
    rw [X.frames, List.length_cons] at h2 h3
    have q1 := X.heapSize
    have q2 := X.used
    simp only [hF, hU, List.length_cons, State.stackLimits_setFrames, State.stackBytes_setFrames, hl9, hb9]
    refine ⟨⟨⟨⟨by omega, by omega, by omega, by omega, by omega, h6⟩, ?_⟩, ?_⟩, X.book⟩
    · show T.heap.size + R'.cells ≤ e.platform.maxCells
      omega
    · show T.slotsUsed + R'.slots ≤ e.platform.maxSlots
      omega
  · rw [State.stackLimits_setFrames]; rfl
  · rw [State.stackBytes_setFrames]; rfl
  · refine ⟨?_, Nat.le_refl _, Nat.le_refl _, ?_, ?_, fun a c9 h9 => ⟨c9, h9, rfl, rfl, fun _ _ => rfl⟩⟩
    · obtain ⟨t, ht, -⟩ := State.frames_cons hr
      show T.setVm s.vm = { ((T.setVm s.vm).setFrames (.invoking m args :: below)).setFrames (T.setVm s.vm).frames with heap := T.heap, slotsUsed := T.slotsUsed }
      rw [State.setFrames_setFrames, State.setFrames_self ht]
      rfl
    · show T.slotsUsed = T.slotsUsed + ((T.heap.toList.drop T.heap.size).map (·.slots.size)).sum
      rw [List.drop_eq_nil_of_le (Nat.le_of_eq Array.length_toList)]
      rfl
    · show ((T.heap.toList.drop T.heap.size).map (·.slots.size)).sum ≤ 0
      rw [List.drop_eq_nil_of_le (Nat.le_of_eq Array.length_toList)]
      exact Nat.le_refl _
/-- 'throw new E()': new; dup; invokespecial; athrow -/
theorem vx_throw0 {cc : ByteArray} {pc : Nat} (hexec : p.tables.exec = Jvm.exec) (hb : c.code = cc) (hl : l.stackTraces = false) {own cls : String} {names : List String} {ik ic mc ms : Nat} {A : Nat → Prop}
    (hown : s.vm.findClass own = some m.cls) (hcls : Bundle.fit cls = true) (hnames : ∀ n ∈ names, Bundle.fit n = true)
    (hk : (Cond.classLink own ik cls).before args s = true) (hini : (Cond.initialized cls).before args s = true) (hat : ∀ w ∈ vx_at0 own ic cls names, w.before args s = true)
    (hgood : ∀ w ∈ Cond.classLink own ik cls :: Cond.initialized cls :: vx_at0 own ic cls names, vx_ot w = true)
    (hU : vx_Zq Bundle.tN "UNASSIGNED_STACK" Bundle.steD A s s.heap) (hN : vx_Zq Bundle.tN "SUPPRESSED_SENTINEL" Bundle.listD A s s.heap) (hS : va_S A s.heap H locs) (hsize : ls.size = c.maxLocals)
    (d0 : decode cc pc = .ok (.new ik, 3)) (d3 : decode cc (pc + 3) = .ok (.dup, 1)) (d4 : decode cc (pc + 4) = .ok (.invokespecial ic, 3)) (d7 : decode cc (pc + 7) = .ok (.athrow, 1))
    (hout : ∀ x ∈ c.exceptionTable.toList, covers x (pc + 7) = false)
    (hRframes : names.length + 3 < R.frames) (hRlocals : (rest.map fun v => v.category).sum + (13 * (names.length + 1) + 42) ≤ R.locals) (hRcells : cells + 1 ≤ R.cells) (hRslots : slots + 6 ≤ R.slots) (hlocks : meth.locks = false)
    (hx : ∀ t : State, s.vm.Alike t.vm → H.size ≤ t.heap.size → (∀ q : Nat, q < H.size → t.heap[q]? = H[q]?) → XC cls s t)
    (hf : ∀ z ∈ locs, free z.base) (hc : cells + 1 ≤ mc) (hs : slots + 6 ≤ ms) :
    W p l e R s m args below meth c H locs cells slots (vx_MQ below Qc XC args s mc ms free) (F0 m pc ls rest) := by
  intro T hT X
  have htr : e.platform.stackTraces = false := (show e.platform.stackTraces = l.stackTraces by rw [X.admits.platform]).trans hl
  have Y := vx_rebase X (R' := { frames := R.frames, locals := R.locals, cells := 1, slots := 6 }) (Nat.le_refl _) (Nat.le_refl _) hRcells hRslots
  obtain ⟨s', hA⟩ : ∃ z, z = (T.setVm s.vm).setFrames (.invoking m args :: below) := ⟨_, rfl⟩
  rw [← hA] at Y
  have hvm : s'.vm = s.vm := by rw [hA]; rfl
  have hhp : s'.heap = H := by rw [hA]; exact hT
  have hW0 : s.WarmedH s'.vm := by rw [hvm]; exact State.WarmedH.refl s
  have hat' : ∀ w ∈ vx_at0 own ic cls names, w.before args s' = true := fun w hw => vx_ot_at hW0 hvm.symm (hgood w (List.mem_cons_of_mem _ (List.mem_cons_of_mem _ hw))) (hat w hw)
  have hk' : (Cond.classLink own ik cls).before args s' = true := vx_ot_at hW0 hvm.symm (hgood _ List.mem_cons_self) hk
  have hini' : (Cond.initialized cls).before args s' = true := vx_ot_at hW0 hvm.symm (hgood _ (List.mem_cons_of_mem _ List.mem_cons_self)) hini
  have hU' : vx_Zq Bundle.tN "UNASSIGNED_STACK" Bundle.steD A s' s'.heap := by rw [hhp]; exact vx_Zq.moved hW0.alike (hU.kept hS.2.1)
  have hN' : vx_Zq Bundle.tN "SUPPRESSED_SENTINEL" Bundle.listD A s' s'.heap := by rw [hhp]; exact vx_Zq.moved hW0.alike (hN.kept hS.2.1)
  have h : ∀ w ∈ Bundle.ownAtoms0 own ic cls names, w.before args s' = true := vx_own hat' (vx_isRefq hU'.1) (vx_isRefq hN'.1) hU'.2.word hN'.2.word
  have hown' : s'.vm.findClass own = some m.cls := by rw [hvm]; exact hown
  have hins : (Cond.instantiable cls 6).before args s' = true := h _ (by simp [Bundle.ownAtoms0])
  obtain ⟨vm₁, cX, kX, hfX, hkX, -, -, X₁, st1⟩ := Y.newCold hexec (own := own) (C := cls) (index := ik) (n := 6) hown' hk' hins hini'
    (g := F0 m pc ls rest) rfl (by rw [hb]; exact d0) (Nat.le_refl _) (Nat.le_refl _)
  generalize hT1 : (T.setVm vm₁).pushCell { cls := cX, slots := kX.instanceTypes.map defaultValue, vm := .none } = T1 at X₁ st1
  have hcat : (Value.ref T.heap.size).category = 1 := rfl
  have hcellA : T1.heap[T.heap.size]? = some (freshCell cX kX) := by rw [← hT1]; exact State.heap_pushCell_size _ _
  have d3' : decode c.code (pc + 3) = .ok (.dup, 1) := by rw [hb]; exact d3
  obtain ⟨U, hsteps, hrun, hend, hW, hsame, ce, hce, hO⟩ := X₁.ctorThrow0 hexec htr (own := own) (cls := cls) (names := names) (ic := ic) hown' hcls hnames h (fun x hx => nomatch hx) hfX hkX hcellA (by rw [hhp, hT]; exact Nat.le_refl _)
    (g := { method := m, pc := pc + 4, locals := ls, stack := .ref T.heap.size :: .ref T.heap.size :: rest, locked := none }) rfl hsize rfl rfl (rest := rest) rfl
    (by rw [hb]; exact d4) (by rw [hb]; exact d7) hout hRframes (by simp only [List.map_cons, List.sum_cons, hcat]; omega) hlocks
  obtain ⟨f1, f2⟩ := vx_frame hsame
  rw [hhp] at f1 f2
  have hWs : s.WarmedH U.vm := State.WarmedH.trans hW0 hW
  have hcl : s.vm.findClass cls = some ce.cls := by
    have h9 := hO.cls
    rw [hvm] at h9
    exact h9
  have hall : s.sameButNew ({ U with vm := s.vm } : State) locs mc ms := by
    subst hA
    obtain ⟨e1, e2⟩ := hsame
    rw [State.setFrames_setFrames] at e1
    have h2 : (T.setVm s.vm).sameButNew ({ U with vm := s.vm } : State) [] (0 + 1) (0 + 6) := ⟨e1, e2⟩
    have h3 := X.same.trans h2
    rw [List.append_nil] at h3
    exact h3.mono hc hs
  refine ⟨U, ?_, .threw T.heap.size, hrun, hend, Or.inr ⟨T.heap.size, rfl, cls, ce, locs, hx U hWs.alike f1 (fun q hq => f2 q hq (fun z hz => nomatch hz)), hce, hO.vm, hcl, hWs, hall, hf⟩⟩
  refine st1 _ ?_
  show Steps p.tables e below (T1.setTop { method := m, pc := pc + 3, locals := ls, stack := .ref T.heap.size :: rest, locked := none }) _
  jvm_step X₁.here [X₁.here.top, hexec, d3', Value.category]
  exact hsteps
/-- 'throw new E("text")': new; dup; ldc; invokespecial; athrow -/
theorem vx_throwS {cc : ByteArray} {pc : Nat} (hexec : p.tables.exec = Jvm.exec) (hb : c.code = cc) (hl : l.stackTraces = false) {own cls text : String} {names : List String} {ik is ic mc ms sa : Nat} {A : Nat → Prop}
    (hown : s.vm.findClass own = some m.cls) (hcls : Bundle.fit cls = true) (hnames : ∀ n ∈ names, Bundle.fit n = true)
    (hk : (Cond.classLink own ik cls).before args s = true) (hini : (Cond.initialized cls).before args s = true) (hstr : vk_R own is text sa s) (hat : ∀ w ∈ vx_atS own ic cls names, w.before args s = true)
    (hgood : ∀ w ∈ Cond.classLink own ik cls :: Cond.initialized cls :: vx_atS own ic cls names, vx_ot w = true)
    (hU : vx_Zq Bundle.tN "UNASSIGNED_STACK" Bundle.steD A s s.heap) (hN : vx_Zq Bundle.tN "SUPPRESSED_SENTINEL" Bundle.listD A s s.heap) (hS : va_S A s.heap H locs) (hsize : ls.size = c.maxLocals)
    (d0 : decode cc pc = .ok (.new ik, 3)) (d3 : decode cc (pc + 3) = .ok (.dup, 1)) (d4 : decode cc (pc + 4) = .ok (.ldc is, 2)) (d6 : decode cc (pc + 6) = .ok (.invokespecial ic, 3)) (d9 : decode cc (pc + 9) = .ok (.athrow, 1))
    (hout : ∀ x ∈ c.exceptionTable.toList, covers x (pc + 9) = false)
    (hRframes : names.length + 3 < R.frames) (hRlocals : (rest.map fun v => v.category).sum + (13 * (names.length + 1) + 43) ≤ R.locals) (hRcells : cells + 1 ≤ R.cells) (hRslots : slots + 6 ≤ R.slots) (hlocks : meth.locks = false)
    (hx : ∀ t : State, s.vm.Alike t.vm → H.size ≤ t.heap.size → (∀ q : Nat, q < H.size → t.heap[q]? = H[q]?) → XC cls s t)
    (hf : ∀ z ∈ locs, free z.base) (hc : cells + 1 ≤ mc) (hs : slots + 6 ≤ ms) :
    W p l e R s m args below meth c H locs cells slots (vx_MQ below Qc XC args s mc ms free) (F0 m pc ls rest) := by
  intro T hT X
  have htr : e.platform.stackTraces = false := (show e.platform.stackTraces = l.stackTraces by rw [X.admits.platform]).trans hl
  have Y := vx_rebase X (R' := { frames := R.frames, locals := R.locals, cells := 1, slots := 6 }) (Nat.le_refl _) (Nat.le_refl _) hRcells hRslots
  obtain ⟨s', hA⟩ : ∃ z, z = (T.setVm s.vm).setFrames (.invoking m args :: below) := ⟨_, rfl⟩
  rw [← hA] at Y
  have hvm : s'.vm = s.vm := by rw [hA]; rfl
  have hhp : s'.heap = H := by rw [hA]; exact hT
  have hW0 : s.WarmedH s'.vm := by rw [hvm]; exact State.WarmedH.refl s
  have hat' : ∀ w ∈ vx_atS own ic cls names, w.before args s' = true := fun w hw => vx_ot_at hW0 hvm.symm (hgood w (List.mem_cons_of_mem _ (List.mem_cons_of_mem _ hw))) (hat w hw)
  have hk' : (Cond.classLink own ik cls).before args s' = true := vx_ot_at hW0 hvm.symm (hgood _ List.mem_cons_self) hk
  have hini' : (Cond.initialized cls).before args s' = true := vx_ot_at hW0 hvm.symm (hgood _ (List.mem_cons_of_mem _ List.mem_cons_self)) hini
  have hU' : vx_Zq Bundle.tN "UNASSIGNED_STACK" Bundle.steD A s' s'.heap := by rw [hhp]; exact vx_Zq.moved hW0.alike (hU.kept hS.2.1)
  have hN' : vx_Zq Bundle.tN "SUPPRESSED_SENTINEL" Bundle.listD A s' s'.heap := by rw [hhp]; exact vx_Zq.moved hW0.alike (hN.kept hS.2.1)
  have h : ∀ w ∈ Bundle.ownAtoms own ic cls names, w.before args s' = true := vx_own hat' (vx_isRefq hU'.1) (vx_isRefq hN'.1) hU'.2.word hN'.2.word
  have hown' : s'.vm.findClass own = some m.cls := by rw [hvm]; exact hown
  have hins : (Cond.instantiable cls 6).before args s' = true := h _ (by simp [Bundle.ownAtoms])
  obtain ⟨vm₁, cX, kX, hfX, hkX, -, -, X₁, st1⟩ := Y.newCold hexec (own := own) (C := cls) (index := ik) (n := 6) hown' hk' hins hini'
    (g := F0 m pc ls rest) rfl (by rw [hb]; exact d0) (Nat.le_refl _) (Nat.le_refl _)
  generalize hT1 : (T.setVm vm₁).pushCell { cls := cX, slots := kX.instanceTypes.map defaultValue, vm := .none } = T1 at X₁ st1
  have hcat : (Value.ref T.heap.size).category = 1 := rfl
  have hcellA : T1.heap[T.heap.size]? = some (freshCell cX kX) := by rw [← hT1]; exact State.heap_pushCell_size _ _
  have d3' : decode c.code (pc + 3) = .ok (.dup, 1) := by rw [hb]; exact d3
  have d4' : decode c.code (pc + 4) = .ok (.ldc is, 2) := by rw [hb]; exact d4
  have hstr' : vk_R own is text sa s' := vk_R.warm hW0 hstr
  obtain ⟨U, hsteps, hrun, hend, hW, hsame, ce, hce, hO⟩ := X₁.ctorThrowS hexec htr (own := own) (cls := cls) (names := names) (ic := ic) hown' hcls hnames h (fun x hx => nomatch hx) hfX hkX hcellA (by rw [hhp, hT]; exact Nat.le_refl _) (msg := .ref sa) rfl
    (g := { method := m, pc := pc + 6, locals := ls, stack := .ref sa :: .ref T.heap.size :: .ref T.heap.size :: rest, locked := none }) rfl hsize rfl rfl (rest := rest) rfl
    (by rw [hb]; exact d6) (by rw [hb]; exact d9) hout hRframes (by simp only [List.map_cons, List.sum_cons, hcat]; omega) hlocks
  obtain ⟨f1, f2⟩ := vx_frame hsame
  rw [hhp] at f1 f2
  have hWs : s.WarmedH U.vm := State.WarmedH.trans hW0 hW
  have hcl : s.vm.findClass cls = some ce.cls := by
    have h9 := hO.cls
    rw [hvm] at h9
    exact h9
  have hall : s.sameButNew ({ U with vm := s.vm } : State) locs mc ms := by
    subst hA
    obtain ⟨e1, e2⟩ := hsame
    rw [State.setFrames_setFrames] at e1
    have h2 : (T.setVm s.vm).sameButNew ({ U with vm := s.vm } : State) [] (0 + 1) (0 + 6) := ⟨e1, e2⟩
    have h3 := X.same.trans h2
    rw [List.append_nil] at h3
    exact h3.mono hc hs
  refine ⟨U, ?_, .threw T.heap.size, hrun, hend, Or.inr ⟨T.heap.size, rfl, cls, ce, locs, hx U hWs.alike f1 (fun q hq => f2 q hq (fun z hz => nomatch hz)), hce, hO.vm, hcl, hWs, hall, hf⟩⟩
  refine st1 _ ?_
  show Steps p.tables e below (T1.setTop { method := m, pc := pc + 3, locals := ls, stack := .ref T.heap.size :: rest, locked := none }) _
  jvm_step X₁.here [X₁.here.top, hexec, d3', Value.category]
  exact X₁.ldcString hexec (own := own) (text := text) (index := is) (a := sa) hown' hstr'.1 hstr'.2
    (g := { method := m, pc := pc + 4, locals := ls, stack := .ref T.heap.size :: .ref T.heap.size :: rest, locked := none }) rfl d4' _ hsteps
/-- 'throw new E("text")', the text by a wide index -/
theorem vx_throwSW {cc : ByteArray} {pc : Nat} (hexec : p.tables.exec = Jvm.exec) (hb : c.code = cc) (hl : l.stackTraces = false) {own cls text : String} {names : List String} {ik is ic mc ms sa : Nat} {A : Nat → Prop}
    (hown : s.vm.findClass own = some m.cls) (hcls : Bundle.fit cls = true) (hnames : ∀ n ∈ names, Bundle.fit n = true)
    (hk : (Cond.classLink own ik cls).before args s = true) (hini : (Cond.initialized cls).before args s = true) (hstr : vk_R own is text sa s) (hat : ∀ w ∈ vx_atS own ic cls names, w.before args s = true)
    (hgood : ∀ w ∈ Cond.classLink own ik cls :: Cond.initialized cls :: vx_atS own ic cls names, vx_ot w = true)
    (hU : vx_Zq Bundle.tN "UNASSIGNED_STACK" Bundle.steD A s s.heap) (hN : vx_Zq Bundle.tN "SUPPRESSED_SENTINEL" Bundle.listD A s s.heap) (hS : va_S A s.heap H locs) (hsize : ls.size = c.maxLocals)
    (d0 : decode cc pc = .ok (.new ik, 3)) (d3 : decode cc (pc + 3) = .ok (.dup, 1)) (d4 : decode cc (pc + 4) = .ok (.ldc_w is, 3)) (d7 : decode cc (pc + 7) = .ok (.invokespecial ic, 3)) (d10 : decode cc (pc + 10) = .ok (.athrow, 1))
    (hout : ∀ x ∈ c.exceptionTable.toList, covers x (pc + 10) = false)
    (hRframes : names.length + 3 < R.frames) (hRlocals : (rest.map fun v => v.category).sum + (13 * (names.length + 1) + 43) ≤ R.locals) (hRcells : cells + 1 ≤ R.cells) (hRslots : slots + 6 ≤ R.slots) (hlocks : meth.locks = false)
    (hx : ∀ t : State, s.vm.Alike t.vm → H.size ≤ t.heap.size → (∀ q : Nat, q < H.size → t.heap[q]? = H[q]?) → XC cls s t)
    (hf : ∀ z ∈ locs, free z.base) (hc : cells + 1 ≤ mc) (hs : slots + 6 ≤ ms) :
    W p l e R s m args below meth c H locs cells slots (vx_MQ below Qc XC args s mc ms free) (F0 m pc ls rest) := by
  intro T hT X
  have htr : e.platform.stackTraces = false := (show e.platform.stackTraces = l.stackTraces by rw [X.admits.platform]).trans hl
  have Y := vx_rebase X (R' := { frames := R.frames, locals := R.locals, cells := 1, slots := 6 }) (Nat.le_refl _) (Nat.le_refl _) hRcells hRslots
  obtain ⟨s', hA⟩ : ∃ z, z = (T.setVm s.vm).setFrames (.invoking m args :: below) := ⟨_, rfl⟩
  rw [← hA] at Y
  have hvm : s'.vm = s.vm := by rw [hA]; rfl
  have hhp : s'.heap = H := by rw [hA]; exact hT
  have hW0 : s.WarmedH s'.vm := by rw [hvm]; exact State.WarmedH.refl s
  have hat' : ∀ w ∈ vx_atS own ic cls names, w.before args s' = true := fun w hw => vx_ot_at hW0 hvm.symm (hgood w (List.mem_cons_of_mem _ (List.mem_cons_of_mem _ hw))) (hat w hw)
  have hk' : (Cond.classLink own ik cls).before args s' = true := vx_ot_at hW0 hvm.symm (hgood _ List.mem_cons_self) hk
  have hini' : (Cond.initialized cls).before args s' = true := vx_ot_at hW0 hvm.symm (hgood _ (List.mem_cons_of_mem _ List.mem_cons_self)) hini
  have hU' : vx_Zq Bundle.tN "UNASSIGNED_STACK" Bundle.steD A s' s'.heap := by rw [hhp]; exact vx_Zq.moved hW0.alike (hU.kept hS.2.1)
  have hN' : vx_Zq Bundle.tN "SUPPRESSED_SENTINEL" Bundle.listD A s' s'.heap := by rw [hhp]; exact vx_Zq.moved hW0.alike (hN.kept hS.2.1)
  have h : ∀ w ∈ Bundle.ownAtoms own ic cls names, w.before args s' = true := vx_own hat' (vx_isRefq hU'.1) (vx_isRefq hN'.1) hU'.2.word hN'.2.word
  have hown' : s'.vm.findClass own = some m.cls := by rw [hvm]; exact hown
  have hins : (Cond.instantiable cls 6).before args s' = true := h _ (by simp [Bundle.ownAtoms])
  obtain ⟨vm₁, cX, kX, hfX, hkX, -, -, X₁, st1⟩ := Y.newCold hexec (own := own) (C := cls) (index := ik) (n := 6) hown' hk' hins hini'
    (g := F0 m pc ls rest) rfl (by rw [hb]; exact d0) (Nat.le_refl _) (Nat.le_refl _)
  generalize hT1 : (T.setVm vm₁).pushCell { cls := cX, slots := kX.instanceTypes.map defaultValue, vm := .none } = T1 at X₁ st1
  have hcat : (Value.ref T.heap.size).category = 1 := rfl
  have hcellA : T1.heap[T.heap.size]? = some (freshCell cX kX) := by rw [← hT1]; exact State.heap_pushCell_size _ _
  have d3' : decode c.code (pc + 3) = .ok (.dup, 1) := by rw [hb]; exact d3
  have d4' : decode c.code (pc + 4) = .ok (.ldc_w is, 3) := by rw [hb]; exact d4
  have hstr' : vk_R own is text sa s' := vk_R.warm hW0 hstr
  obtain ⟨U, hsteps, hrun, hend, hW, hsame, ce, hce, hO⟩ := X₁.ctorThrowS hexec htr (own := own) (cls := cls) (names := names) (ic := ic) hown' hcls hnames h (fun x hx => nomatch hx) hfX hkX hcellA (by rw [hhp, hT]; exact Nat.le_refl _) (msg := .ref sa) rfl
    (g := { method := m, pc := pc + 7, locals := ls, stack := .ref sa :: .ref T.heap.size :: .ref T.heap.size :: rest, locked := none }) rfl hsize rfl rfl (rest := rest) rfl
    (by rw [hb]; exact d7) (by rw [hb]; exact d10) hout hRframes (by simp only [List.map_cons, List.sum_cons, hcat]; omega) hlocks
  obtain ⟨f1, f2⟩ := vx_frame hsame
  rw [hhp] at f1 f2
  have hWs : s.WarmedH U.vm := State.WarmedH.trans hW0 hW
  have hcl : s.vm.findClass cls = some ce.cls := by
    have h9 := hO.cls
    rw [hvm] at h9
    exact h9
  have hall : s.sameButNew ({ U with vm := s.vm } : State) locs mc ms := by
    subst hA
    obtain ⟨e1, e2⟩ := hsame
    rw [State.setFrames_setFrames] at e1
    have h2 : (T.setVm s.vm).sameButNew ({ U with vm := s.vm } : State) [] (0 + 1) (0 + 6) := ⟨e1, e2⟩
    have h3 := X.same.trans h2
    rw [List.append_nil] at h3
    exact h3.mono hc hs
  refine ⟨U, ?_, .threw T.heap.size, hrun, hend, Or.inr ⟨T.heap.size, rfl, cls, ce, locs, hx U hWs.alike f1 (fun q hq => f2 q hq (fun z hz => nomatch hz)), hce, hO.vm, hcl, hWs, hall, hf⟩⟩
  refine st1 _ ?_
  show Steps p.tables e below (T1.setTop { method := m, pc := pc + 3, locals := ls, stack := .ref T.heap.size :: rest, locked := none }) _
  jvm_step X₁.here [X₁.here.top, hexec, d3', Value.category]
  exact X₁.ldcStringW hexec (own := own) (text := text) (index := is) (a := sa) hown' hstr'.1 hstr'.2
    (g := { method := m, pc := pc + 4, locals := ls, stack := .ref T.heap.size :: .ref T.heap.size :: rest, locked := none }) rfl d4' _ hsteps
end Ends
section Bodies
variable {l : Launch}
theorem vx_ofW {y : MethodName} {ws ws' : List Cond} {rm : Room} {Pc : Array Value → State → Prop} {Qc : Array Value → State → Outcome → State → Prop} {XC : String → State → State → Prop} {mc ms : Nat} {free : Addr → Prop} {cc : ByteArray} {maxL : Nat} {ret : Option FieldType}
    (hy : plainName y.cls = true) (hw : ws = Cond.code y cc maxL ret :: ws')
    (body : ∀ p e s m args below meth c s₁, BodyLoose p l y (headSpec ws rm) cc maxL ret e s m args below meth c s₁ → c.maxLocals = maxL → (∀ x ∈ c.exceptionTable.toList, False) → Pc args s →
      W p l e (headSpec ws rm).room s m args below meth c s.heap [] 0 0 (vx_MQ below Qc XC args s mc ms free) (entryFrame m args maxL)) : vx_Met l y ws rm Pc Qc XC mc ms free := by
  refine MetFree.of_bodyS (code := cc) (maxLocals := maxL) (ret := ret) hy ?_ ?_
  · intro args s m h hn
    obtain ⟨meth, c, h1, h2, h3, h4, h5, h6, -, -⟩ := Cond.code_spec hn (atoms_spec (ws := ws) h _ (by rw [hw]; exact List.mem_cons_self))
    exact ⟨meth, c, h1, h2, h3, h4, h5, h6⟩
  · intro p e s m args below meth c s₁ B hml hP _
    have hh0 : s₁.heap = s.heap := by rw [B.state]; rfl
    have ht : ∀ x ∈ c.exceptionTable.toList, False := by
      obtain ⟨meth9, c9, h1, h2, -, -, -, -, h7, -⟩ := Cond.code_spec B.named (atoms_spec (ws := ws) B.pre _ (by rw [hw]; exact List.mem_cons_self))
      cases Option.some.inj (h1.symm.trans B.method)
      cases Option.some.inj (h2.symm.trans (Stand.of_body B).code)
      intro x hx
      rw [Array.isEmpty_iff.mp h7] at hx
      cases hx
    obtain ⟨t, a1, o, b1, b2, b3⟩ := body p e s m args below meth c s₁ B hml ht hP s₁ hh0 (Stand.of_body B)
    exact ⟨t, o, a1, b1, b2, b3⟩
/-- the table of a body with handlers -/
theorem vx_table {p : Program} {x y : MethodName} {S : Spec} {cc bytes : ByteArray} {maxL maxL' : Nat} {ret ret' : Option FieldType} {e : Env} {s s₁ : State} {m : MethodId} {args : Array Value} {below : List Frame} {meth : Method} {c : Code} {hh : List (Nat × Nat × Nat × Nat)}
    (B : BodyLoose p l y S cc maxL ret e s m args below meth c s₁) (h : (Cond.codeWith y bytes maxL' ret' hh).before args s = true) : c.exceptionTable.toList = tableOf hh := by
  obtain ⟨m9, meth9, c9, hn9, h1, h2, -, -, h6, -⟩ := Cond.codeWith_spec h
  cases Option.some.inj (hn9.symm.trans B.named)
  cases Option.some.inj (h1.symm.trans B.method)
  cases Option.some.inj (h2.symm.trans (Stand.of_body B).code)
  rw [← h6, table_eq]
end Bodies
end VXA
/-! ===== END ===== -/
/-! ===== BEGIN a static call of a method with an exception table ===== -/
section VXS
variable {p : Program} {l : Launch} {e : Env} {R : Room} {s : State} {m : MethodId} {args : Array Value} {below : List Frame} {meth : Method} {c : Code} {T : State} {H : Heap} {locs : List Loc} {cells slots : Nat}
abbrev vx_CSW (R : Room) (s : State) (args : Array Value) (own : String) (index : Nat) (y : MethodName) (bytes : ByteArray) (maxL : Nat) (ret : Option FieldType) (hh : List (Nat × Nat × Nat × Nat)) (ws : List Cond) (rm : Room) (mc ms n : Nat) : Prop :=
  (rm.cells = mc ∧ rm.slots = ms ∧ rm.frames + 1 ≤ R.frames ∧ 8 + (maxL + 11) + rm.locals ≤ R.locals ∧ (∀ w ∈ ws, ∀ (a' : Array Value) (U : State), s.WarmedH U.vm → w.before a' U = true) ∧ Cond.codeWith y bytes maxL ret hh ∈ ws) ∧
  (Cond.codeWith y bytes maxL ret hh).before args s = true ∧ (Cond.initialized y.cls).before args s = true ∧ (y.cls ≠ "java/lang/invoke/MethodHandle" ∧ y.cls ≠ "java/lang/invoke/VarHandle") ∧
  (∀ sig, parseMethodDescriptor y.desc = some sig → n = sig.parameters.length) ∧ (Cond.methodLink own index y).before args s = true ∧ (Cond.static y).before args s = true
theorem vx_cwSW {own : String} {index maxL mc ms : Nat} {y : MethodName} {bytes : ByteArray} {ret : Option FieldType} {hh : List (Nat × Nat × Nat × Nat)} {Ts ws ws' : List Cond} {rm : Room} (n : Nat) (ht : ∀ w ∈ Ts, w.before args s = true) (hT : GoodIn Ts (va_wsS own index y ws)) (hw : ws = Cond.codeWith y bytes maxL ret hh :: ws') (hrc : rm.cells = mc) (hrs : rm.slots = ms)
    (hd : y.cls ≠ "java/lang/invoke/MethodHandle" ∧ y.cls ≠ "java/lang/invoke/VarHandle" ∧ (parseMethodDescriptor y.desc).map (fun d => d.parameters.length) = some n) (hR : rm.frames + 1 ≤ R.frames ∧ 8 + (maxL + 11) + rm.locals ≤ R.locals) :
    vx_CSW R s args own index y bytes maxL ret hh ws rm mc ms n := by
  have ok : ∀ w ∈ va_wsS own index y ws, w.before args s = true := fun w h => ht w (hT w h).1
  have hG : GoodIn Ts ws := fun w h => hT w (by unfold va_wsS; exact List.mem_append_right _ h)
  have hc : Cond.codeWith y bytes maxL ret hh ∈ ws := by rw [hw]; exact List.mem_cons_self
  refine ⟨⟨hrc, hrs, hR.1, hR.2, pay_in ht hG, hc⟩, ht _ (hG _ hc).1, ok _ (by simp [va_wsS]), ⟨hd.1, hd.2.1⟩, fun sig h => ?_, ok _ (by simp [va_wsS]), ok _ (by simp [va_wsS])⟩
  have h2 := hd.2.2
  rw [h] at h2
  exact (Option.some.inj h2).symm
theorem vx_callSW (X : Stand p l e R s m args below meth c T locs cells slots) (hexec : p.tables.exec = Jvm.exec) {own : String} {index : Nat} {y : MethodName} {bytes : ByteArray} {maxL : Nat} {ret : Option FieldType} {hh : List (Nat × Nat × Nat × Nat)}
    (hown : s.vm.findClass own = some m.cls) (hlink : (Cond.methodLink own index y).before args s = true) (hstat : (Cond.static y).before args s = true) (hinit : (Cond.initialized y.cls).before args s = true)
    (hcode : (Cond.codeWith y bytes maxL ret hh).before args s = true) (hy : y.cls ≠ "java/lang/invoke/MethodHandle" ∧ y.cls ≠ "java/lang/invoke/VarHandle")
    {W9 : Nat} {Pre : Pt → Array Value → Prop} {Post : Pt → Array Value → Option Value → Pt → Prop} (hK : Back l R p e below s args y 3 W9 Pre Post)
    {g : JFrame} (hg : g.method = m) (hsize : g.locals.size = c.maxLocals) {argsL rest : List Value} (hlen : ∀ sig, parseMethodDescriptor y.desc = some sig → argsL.length = sig.parameters.length)
    (hstack : g.stack = argsL.reverse ++ rest) (hW : 2 * g.monitorRoom + (rest.map fun v => v.category).sum ≤ W9) (hdg : decode c.code g.pc = .ok (.invokestatic index, 3))
    (hpre : ∀ vm₁, s.WarmedH vm₁ → Pre ⟨T.setVm vm₁, locs, cells, slots⟩ argsL.toArray) :
    ∃ (v : Option Value) (vm₁ : Vm) (B : Pt), s.WarmedH vm₁ ∧ Stand p l e R s m args below meth c B.U B.locs B.cells B.slots ∧ Post ⟨T.setVm vm₁, locs, cells, slots⟩ argsL.toArray v B ∧
      ∀ target, Steps p.tables e below (B.U.setTop { g with pc := g.pc + 3, stack := v.toList ++ rest }) target → Steps p.tables e below (T.setTop g) target := by
  obtain ⟨mk, methM, cM, hnamed, hmethM, -, -, -, -, -, -, hsigM⟩ := Cond.codeWith_spec hcode
  have hstatic : methM.isStatic = true := Cond.static_spec hnamed hmethM hstat
  obtain ⟨kP, hkP, -⟩ := className_of_methodNamed hnamed
  have hinitP : kP.init = .initialized := Cond.initialized_spec (findClass_of_methodNamed hnamed) hkP hinit
  obtain ⟨vm₁, X₁, hstep₁⟩ := X.invokestatic hexec hown hlink hnamed hmethM hstatic hkP hinitP hy (g := g) hg (argsL := argsL) (rest := rest) (hlen _ hsigM) hstack hdg
  obtain ⟨v, B, X', hpost, hsteps⟩ := hK m meth c ⟨T.setVm vm₁, locs, cells, slots⟩ { g with stack := rest } (.invokestatic index) mk argsL.toArray X₁ hg hsize hdg hW (X₁.named hnamed) (hpre vm₁ X₁.warmed)
  exact ⟨v, vm₁, B, X₁.warmed, X', hpost, fun target h => hstep₁ _ fun acts => by rw [doInvoke_state]; exact hsteps.trans h⟩
theorem vx_runSW {y : MethodName} {bytes cc : ByteArray} {maxL nL mc ms n index : Nat} {ret : Option FieldType} {hh : List (Nat × Nat × Nat × Nat)} {ws : List Cond} {rm : Room} {Pc : Array Value → State → Prop} {Qc : Array Value → State → Outcome → State → Prop} {free : Addr → Prop} {Ts : List Cond} {own : String} {As rest : List Value} {g : JFrame}
    (S : CallFix p m c cc nL s args Ts own) (hM : Met l y ws rm Pc Qc mc ms free) (cw : vx_CSW R s args own index y bytes maxL ret hh ws rm mc ms n) (hp : PreS s H Pc As)
    (hg : g.method = m) (hn : As.length = n) (hsize : g.locals.size = nL) (hstack : g.stack = As.reverse ++ rest) (hW : 2 * g.monitorRoom + (rest.map fun v => v.category).sum ≤ 8) (hdg : decode cc g.pc = .ok (.invokestatic index, 3)) (hf : cells + mc ≤ R.cells ∧ slots + ms ≤ R.slots) :
    va_Run p l e R s m args below meth c H locs cells slots mc ms g rest (Qc As.toArray) (free) := by
  obtain ⟨⟨hrc, hrs, hfr, hlo, hws, hcw⟩, hcode, hini, hy, hlen, hl, hstt⟩ := cw
  have hK : Back l R p e below s args y 3 8 (PreOf R mc ms Pc) (PostOf Qc mc ms free) := va_backW (hh := hh) (bytes := bytes) (maxL := maxL) (ret := ret) hM hp.1 hrc hrs hfr hlo hws hcw (fun a' U hW => word_at hW (Or.inl (by first | rfl | simp [Cond.onTables, Cond.keeps, Cond.steady])) hini)
  obtain ⟨hx, hb, hml, ho, -⟩ := S
  intro T hT X
  obtain ⟨v, vm₁, ⟨U', l2, c2, s2⟩, hW₁, X', ⟨g', mk, t, L, e1, e2, hq, h1, hL, h2, h3⟩, st⟩ := vx_callSW X hx (hh := hh) (bytes := bytes) (maxL := maxL) (ret := ret) ho hl hstt hini hcode hy hK hg (hsize.trans hml.symm) (argsL := As) (rest := rest) (fun sig h => hn.trans (hlen sig h)) hstack hW (by rw [hb]; exact hdg)
    (fun vm₁ hW₁ => ⟨hf.1, hf.2, hp.2 (T.setVm vm₁) hT hW₁⟩)
  dsimp only [Pt.U, Pt.locs, Pt.cells, Pt.slots] at X' e1 e2 h1 h2 h3 st
  subst h1; subst h2; subst h3
  exact ⟨v, (T.setVm vm₁).calling g' mk As.toArray, t, U', L, hT, X', hL, e1, e2, hq, st⟩
/-- not caught here, past rows that name other classes: it goes on to the caller -/
theorem vx_outP {p : Program} {l : Launch} {e : Env} {R : Room} {s : State} {m : MethodId} {args : Array Value} {below : List Frame} {meth : Method} {c : Code} {H : Heap} {locs : List Loc} {cells slots : Nat} {free : Addr → Prop} {ls : Array Slot} {rest : List Value} {Qc : Array Value → State → Outcome → State → Prop} {XC : String → State → State → Prop}
    {pc : Nat} {own E : String} {ce : Cell} {q : Addr} {mc ms : Nat} (hown : s.vm.findClass own = some m.cls) (hlocks : meth.locks = false)
    (hpass : ∀ z ∈ c.exceptionTable.toList, covers z pc = false ∨ (z.catchType ≠ 0 ∧ ∃ nm : String, (Cond.classLink own z.catchType nm).before args s = true ∧ va_Nc E nm s)) (hcell : H[q]? = some ce) (hv : ce.vm = .none) (hcl : s.vm.findClass E = some ce.cls)
    (hx : ∀ t : State, t.heap = H → s.vm.Alike t.vm → XC E s t) (hf : ∀ z ∈ locs, free z.base) (hc : cells ≤ mc) (hs : slots ≤ ms) :
    vx_W p l e R s m args below meth c H locs cells slots (vx_MQ below Qc XC args s mc ms free) (F0 m pc ls rest) q := by
  intro T hT X
  have hpl : e.platform.magicAccessors = ({} : Platform).magicAccessors := by rw [X.admits.platform]
  obtain ⟨vm', hW', X', st⟩ := X.outThrough hlocks q (g := F0 m pc ls rest) rfl rfl rfl (cell := ce) (by rw [hT]; exact hcell) (by rw [hv]; rfl)
    (by obtain ⟨k9, h9, -⟩ := Vm.findClass_spec hcl; exact ⟨k9, h9⟩) (fun z hz => by
      rcases hpass z hz with h | ⟨hz0, nm, hl1, hn1⟩
      · exact Or.inl h
      · obtain ⟨c6, hc6, hcl6⟩ := Cond.classLink_spec hown hl1 e.platform hpl
        obtain ⟨a8, b8, h1, h2, h3⟩ := hn1
        cases Option.some.inj (h1.symm.trans hcl)
        cases Option.some.inj (h2.symm.trans hc6)
        exact Or.inr ⟨hz0, _, hcl6, h3⟩)
  obtain ⟨g₀, hfr⟩ := X'.frames_eq
  have hcell9 : ((T.setVm vm').setFrames (.throwing q :: below)).heap[q]? = some ce := by
    show T.heap[q]? = some ce
    rw [hT]; exact hcell
  have hend : Ended ((T.setVm vm').setFrames (.throwing q :: below)) below (.threw q) := State.frames_setFrames _ (State.cur_lt_of_frames hfr)
  refine ⟨(T.setVm vm').setFrames (.throwing q :: below), ?_, .threw q, X'.here.running, hend, Or.inr ⟨q, rfl, E, ce, locs, hx _ hT (X'.ends _).1.alike, hcell9, hv, hcl, (X'.ends _).1, (X'.ends _).2.mono hc hs, hf⟩⟩
  rw [X.pushThrowing_eq]
  exact st
/-- a thing of a world lies in the heap -/
theorem vx_lt {D : va_G} {cl : List vw_C} {ws : va_W} {H1 : Heap} (h : va_P D cl ws H1) {k : Nat} {q : Nat × va_E} (hk : ws[k]? = some q) : q.1 < H1.size := (h k q hk).lt
end VXS
/-! ===== END ===== -/
/-! ===== BEGIN methods with a table of their own: called by a name, returning or throwing ===== -/
section VXH
/-! vx_backW, vx_callVX, vx_callSX, vx_callVW, vx_runVW, vx_runVX, vx_runSX, vx_ofWH follow the same proofs as their sisters above (Free/Laws.lean, Shelf42/LK1.lean); vx_outP calls Shelf42/NT130.lean (outThrough). -/
section
variable {l : Launch} {R : Room} {p : Program} {e : Env} {below : List Frame} {s : State} {sargs : Array Value} {y : MethodName} {len W9 : Nat}
theorem vx_backW {ws : List Cond} {rm : Room} {Pc : Array Value → State → Prop} {Qc : Array Value → State → Outcome → State → Prop} {XC : String → State → State → Prop} {mc ms : Nat} {free : Addr → Prop} {bytes : ByteArray} {maxL : Nat} {ret : Option FieldType} {hh : List (Nat × Nat × Nat × Nat)}
    (hM : vx_Met l y ws rm Pc Qc XC mc ms free) (hblind : FrameBlind Pc) (hrc : rm.cells = mc) (hrs : rm.slots = ms)
    (hframes : rm.frames + 1 ≤ R.frames) (hlocals : W9 + (maxL + 11) + rm.locals ≤ R.locals)
    (hws : ∀ w ∈ ws, ∀ a' U, s.WarmedH U.vm → w.before a' U = true) (hcode : Cond.codeWith y bytes maxL ret hh ∈ ws) (hinit : ∀ a' U, s.WarmedH U.vm → (Cond.initialized y.cls).before a' U = true) :
    vx_Back l R p e below s sargs y len W9 (PreOf R mc ms Pc) (PostOf Qc mc ms free) (vx_Post XC mc ms free) := by
  intro m meth c A g ig mk a X hg hsize hdg hW hn hp
  have h1 : (headSpec ws rm).pre.before a A.U = true := atoms_intro fun w hw => hws w hw _ _ X.warmed
  have h2 : (Cond.codeWith y bytes maxL ret hh).before a A.U = true := hws _ hcode _ _ X.warmed
  have h3 : (Cond.initialized y.cls).before a A.U = true := hinit _ _ X.warmed
  have h4 : A.cells + (headSpec ws rm).room.cells ≤ R.cells := by rw [show (headSpec ws rm).room.cells = mc from hrc]; exact hp.1
  have h5 : A.slots + (headSpec ws rm).room.slots ≤ R.slots := by rw [show (headSpec ws rm).room.slots = ms from hrs]; exact hp.2.1
  have hPc : Pc a (A.U.calling g mk a) := hblind _ _ _ _ hp.2.2
  obtain ⟨U, Ls, c0, s0⟩ := A
  dsimp only [Pt.U, Pt.locs, Pt.cells, Pt.slots] at h1 h2 h3 h4 h5 X hn hPc ⊢
  obtain ⟨m9, methY, cY, hn9, hmY, hcY, -, hlY, -⟩ := Cond.codeWith_spec h2
  cases Option.some.inj (hn9.symm.trans hn)
  obtain ⟨kY, hkY, -⟩ := className_of_methodNamed hn
  have hinitY : kY.init = .initialized := Cond.initialized_spec (findClass_of_methodNamed hn) hkY h3
  have h : At U g.method c below := by rw [hg]; exact X.here
  have hlocals9 : W9 + (maxL + 11) + (headSpec ws rm).room.locals ≤ R.locals := hlocals
  have happ : (headSpec ws rm).appliesLoose y e.platform (U.calling g mk a) = true :=
    Spec.appliesLoose_calling (g := g) h hdg hn hkY hinitY
      (X.room_calling (g := g) (R' := (headSpec ws rm).room) hsize hmY hcY hframes (by rw [hlY]; omega) h4 h5) h1
  obtain ⟨mid, hmid⟩ := h.above
  have hfr : (U.setTop g).frames = (.java g :: mid) ++ below := by rw [State.frames_setTop' g h.top, hmid]; rfl
  obtain ⟨o, s₂, hsteps, -, hend, hq⟩ := Steps.callFree hM p X.admits X.cas X.clock (acts := []) hfr happ hPc trivial
  have hq' : vx_Q Qc XC mc ms free a (U.calling g mk a) o s₂ := hq
  rw [State.frames_setTop' g h.top] at hend
  obtain ⟨g₀, hg0⟩ := Option.isSome_iff_exists.mp h.top
  obtain ⟨r, hr⟩ := State.topJava?_eq_some.mp hg0
  have hr' : (({ U with heap := s₂.heap, slotsUsed := s₂.slotsUsed } : State).setVm s₂.vm).frames = .java g₀ :: r := hr
  rcases hq' with ⟨hqc, L, hfe, hL⟩ | ⟨q, rfl, E, ce, L, hx, hce, hcv, hcl, hW₂, hsm, hL⟩
  · obtain ⟨⟨v, rfl⟩, hW₂, e2, q2, q3, q4, q5, q6⟩ := id hfe
    have e3 : s₂ = ({ (U.calling g mk a).setFrames s₂.frames with heap := s₂.heap, slotsUsed := s₂.slotsUsed } : State).setVm s₂.vm := by
      have : s₂ = ({ s₂ with vm := (U.calling g mk a).vm } : State).setVm s₂.vm := rfl
      rw [e2] at this
      exact this
    obtain ⟨c₂, i₂, len₂, hc₂, hd₂, hf₂⟩ := hend
    have hW' : U.WarmedH s₂.vm := hW₂
    have hcc : c₂ = c := by
      have h1 : s₂.code? g.method = U.code? g.method := by
        rw [State.code?_eq, State.code?_eq, hW'.alike.method?]
      exact Option.some.inj (hc₂.symm.trans (h1.trans h.code))
    subst hcc
    have hlen : len₂ = len := by rw [hdg] at hd₂; cases hd₂; rfl
    subst hlen
    have hs₂ : s₂ = (({ U with heap := s₂.heap, slotsUsed := s₂.slotsUsed } : State).setVm s₂.vm).setTop { g with pc := g.pc + len₂, stack := v.toList ++ g.stack } := by
      refine e3.trans ?_
      rw [hf₂, State.calling_eq h.top, State.setFrames_setFrames, State.setTop_of_frames _ hr', hr]
      rfl
    have hsame : U.sameButNew ({ U with heap := s₂.heap, slotsUsed := s₂.slotsUsed } : State) L mc ms := by
      refine ⟨?_, q2, q3, q4, q5, q6⟩
      obtain ⟨t, ht, -⟩ := State.frames_cons hr
      show ({ U with heap := s₂.heap, slotsUsed := s₂.slotsUsed } : State) = { U.setFrames U.frames with heap := s₂.heap, slotsUsed := s₂.slotsUsed }
      rw [State.setFrames_self ht]
    subst hg
    refine Or.inl ⟨v, ⟨(({ U with heap := s₂.heap, slotsUsed := s₂.slotsUsed } : State).setVm s₂.vm), Ls ++ L, c0 + mc, s0 + ms⟩,
      ⟨X.admits, X.cas, X.clock, X.frames, X.room, X.hears, X.method, X.code, (X.here.setHeapUsed s₂.heap s₂.slotsUsed).setVm hW'.alike, X.tail, State.WarmedH.trans X.warmed hW', X.limits, X.bytes, X.same.trans (hsame.setVm s.vm)⟩,
      ⟨g, mk, s₂, L, rfl, rfl, hqc, rfl, hL, rfl, rfl⟩, ?_⟩
    show Steps p.tables e below _ ((({ U with heap := s₂.heap, slotsUsed := s₂.slotsUsed } : State).setVm s₂.vm).setTop { g with pc := g.pc + len₂, stack := v.toList ++ g.stack })
    rw [← hs₂]
    exact hsteps
  · obtain ⟨e2, q2, q3, q4, q5, q6⟩ := id hsm
    have e3 : s₂ = ({ (U.calling g mk a).setFrames s₂.frames with heap := s₂.heap, slotsUsed := s₂.slotsUsed } : State).setVm s₂.vm := by
      have : s₂ = ({ s₂ with vm := (U.calling g mk a).vm } : State).setVm s₂.vm := rfl
      rw [e2] at this
      exact this
    have hf₂ : s₂.frames = .throwing q :: .java g :: U.frames.tail := hend
    have hW' : U.WarmedH s₂.vm := hW₂
    have hs₂ : s₂ = ((({ U with heap := s₂.heap, slotsUsed := s₂.slotsUsed } : State).setVm s₂.vm).setTop g).pushFrame (.throwing q) := by
      refine e3.trans ?_
      rw [hf₂, State.calling_eq h.top, State.setFrames_setFrames, State.pushFrame, State.frames_setTop _ hr', State.setTop_of_frames _ hr', State.setFrames_setFrames, hr]
      rfl
    have hsame : U.sameButNew ({ U with heap := s₂.heap, slotsUsed := s₂.slotsUsed } : State) L mc ms := by
      refine ⟨?_, q2, q3, q4, q5, q6⟩
      obtain ⟨t, ht, -⟩ := State.frames_cons hr
      show ({ U with heap := s₂.heap, slotsUsed := s₂.slotsUsed } : State) = { U.setFrames U.frames with heap := s₂.heap, slotsUsed := s₂.slotsUsed }
      rw [State.setFrames_self ht]
    subst hg
    refine Or.inr ⟨q, ⟨(({ U with heap := s₂.heap, slotsUsed := s₂.slotsUsed } : State).setVm s₂.vm), Ls ++ L, c0 + mc, s0 + ms⟩,
      ⟨X.admits, X.cas, X.clock, X.frames, X.room, X.hears, X.method, X.code, (X.here.setHeapUsed s₂.heap s₂.slotsUsed).setVm hW'.alike, X.tail, State.WarmedH.trans X.warmed hW', X.limits, X.bytes, X.same.trans (hsame.setVm s.vm)⟩,
      ⟨g, mk, s₂, L, E, ce, rfl, rfl, hx, hce, hcv, hcl, rfl, hL, rfl, rfl⟩, ?_⟩
    show Steps p.tables e below _ (((({ U with heap := s₂.heap, slotsUsed := s₂.slotsUsed } : State).setVm s₂.vm).setTop g).pushFrame (.throwing q))
    rw [← hs₂]
    exact hsteps
end
variable {p : Program} {l : Launch} {e : Env} {R : Room} {s : State} {m : MethodId} {args : Array Value} {below : List Frame} {meth : Method} {c : Code} {T : State} {H : Heap} {locs : List Loc} {cells slots : Nat}
theorem vx_callVX (X : Stand p l e R s m args below meth c T locs cells slots) (hexec : p.tables.exec = Jvm.exec) {own C : String} {index : Nat} {y : MethodName} {bytes : ByteArray} {maxL : Nat} {ret : Option FieldType} {hh : List (Nat × Nat × Nat × Nat)}
    (hown : s.vm.findClass own = some m.cls) (hlink : (Cond.methodLink own index y).before args s = true) (hinst : (Cond.instanceMethod y).before args s = true) (hsel : (Cond.selects C y y).before args s = true)
    (hcode : (Cond.codeWith y bytes maxL ret hh).before args s = true) (hy : y.cls ≠ "java/lang/invoke/MethodHandle" ∧ y.cls ≠ "java/lang/invoke/VarHandle")
    {W9 : Nat} {Pre : Pt → Array Value → Prop} {Post : Pt → Array Value → Option Value → Pt → Prop} {PostX : Pt → Array Value → Addr → Pt → Prop} (hK : vx_Back l R p e below s args y 3 W9 Pre Post PostX)
    {b : Addr} {cellB : Cell} (hcell : T.heap[b]? = some cellB) (hobj : cellB.vm.isStatics = false) (hcls : s.vm.findClass C = some cellB.cls)
    {g : JFrame} (hg : g.method = m) (hsize : g.locals.size = c.maxLocals) {argsL rest : List Value} (hlen : ∀ sig, parseMethodDescriptor y.desc = some sig → argsL.length = sig.parameters.length)
    (hstack : g.stack = argsL.reverse ++ .ref b :: rest) (hW : 2 * g.monitorRoom + (rest.map fun v => v.category).sum ≤ W9) (hdg : decode c.code g.pc = .ok (.invokevirtual index, 3))
    (hpre : ∀ vm₁, s.WarmedH vm₁ → Pre ⟨T.setVm vm₁, locs, cells, slots⟩ (Value.ref b :: argsL).toArray) :
    (∃ (v : Option Value) (vm₁ : Vm) (B : Pt), s.WarmedH vm₁ ∧ Stand p l e R s m args below meth c B.U B.locs B.cells B.slots ∧ Post ⟨T.setVm vm₁, locs, cells, slots⟩ (Value.ref b :: argsL).toArray v B ∧
      ∀ target, Steps p.tables e below (B.U.setTop { g with pc := g.pc + 3, stack := v.toList ++ rest }) target → Steps p.tables e below (T.setTop g) target) ∨
    (∃ (q : Addr) (vm₁ : Vm) (B : Pt), s.WarmedH vm₁ ∧ Stand p l e R s m args below meth c B.U B.locs B.cells B.slots ∧ PostX ⟨T.setVm vm₁, locs, cells, slots⟩ (Value.ref b :: argsL).toArray q B ∧
      Steps p.tables e below (T.setTop g) ((B.U.setTop { g with stack := rest }).pushFrame (.throwing q))) := by
  obtain ⟨mk, methM, hnamed, hmethM, hstM, habM⟩ := Cond.instanceMethod_spec hinst
  obtain ⟨m8, methM', cM, hn8, hmethM', -, -, -, -, -, -, hsigM⟩ := Cond.codeWith_spec hcode
  cases Option.some.inj (hn8.symm.trans hnamed)
  cases hmethM.symm.trans hmethM'
  obtain ⟨c2, r2, m2, q1, q2, q3, q4, kP, hkP, hkPi⟩ := Cond.selects_spec hsel
  cases hcls.symm.trans q1
  cases (State.methodFound?_of_named hnamed hy).symm.trans q2
  cases hnamed.symm.trans q3
  have hselP : selectMethod e.platform s.vm cellB.cls mk = .method mk := by rw [Launch.admits_selectMethod X.admits]; exact q4
  obtain ⟨vm₁, X₁, hstep₁⟩ := X.invokevirtual hexec hown hlink hnamed hmethM hstM hkP hkPi hy (a := b) (cell := cellB) hcell
    (fun z h => by rw [h] at hobj; cases hobj) hselP hmethM habM hkP hkPi (g := g) hg (argsL := argsL) (rest := rest) (hlen _ hsigM) hstack hdg
  rcases hK m meth c ⟨T.setVm vm₁, locs, cells, slots⟩ { g with stack := rest } (.invokevirtual index) mk (Value.ref b :: argsL).toArray X₁ hg hsize hdg hW (X₁.named hnamed) (hpre vm₁ X₁.warmed) with ⟨v, B, X', hpost, hsteps⟩ | ⟨q, B, X', hpost, hsteps⟩
  · exact Or.inl ⟨v, vm₁, B, X₁.warmed, X', hpost, fun target h => hstep₁ _ fun acts => by rw [doInvoke_state]; exact hsteps.trans h⟩
  · exact Or.inr ⟨q, vm₁, B, X₁.warmed, X', hpost, hstep₁ _ fun acts => by rw [doInvoke_state]; exact hsteps⟩
theorem vx_callSX (X : Stand p l e R s m args below meth c T locs cells slots) (hexec : p.tables.exec = Jvm.exec) {own : String} {index : Nat} {y : MethodName} {bytes : ByteArray} {maxL : Nat} {ret : Option FieldType} {hh : List (Nat × Nat × Nat × Nat)}
    (hown : s.vm.findClass own = some m.cls) (hlink : (Cond.methodLink own index y).before args s = true) (hstat : (Cond.static y).before args s = true) (hinit : (Cond.initialized y.cls).before args s = true)
    (hcode : (Cond.codeWith y bytes maxL ret hh).before args s = true) (hy : y.cls ≠ "java/lang/invoke/MethodHandle" ∧ y.cls ≠ "java/lang/invoke/VarHandle")
    {W9 : Nat} {Pre : Pt → Array Value → Prop} {Post : Pt → Array Value → Option Value → Pt → Prop} {PostX : Pt → Array Value → Addr → Pt → Prop} (hK : vx_Back l R p e below s args y 3 W9 Pre Post PostX)
    {g : JFrame} (hg : g.method = m) (hsize : g.locals.size = c.maxLocals) {argsL rest : List Value} (hlen : ∀ sig, parseMethodDescriptor y.desc = some sig → argsL.length = sig.parameters.length)
    (hstack : g.stack = argsL.reverse ++ rest) (hW : 2 * g.monitorRoom + (rest.map fun v => v.category).sum ≤ W9) (hdg : decode c.code g.pc = .ok (.invokestatic index, 3))
    (hpre : ∀ vm₁, s.WarmedH vm₁ → Pre ⟨T.setVm vm₁, locs, cells, slots⟩ argsL.toArray) :
    (∃ (v : Option Value) (vm₁ : Vm) (B : Pt), s.WarmedH vm₁ ∧ Stand p l e R s m args below meth c B.U B.locs B.cells B.slots ∧ Post ⟨T.setVm vm₁, locs, cells, slots⟩ argsL.toArray v B ∧
      ∀ target, Steps p.tables e below (B.U.setTop { g with pc := g.pc + 3, stack := v.toList ++ rest }) target → Steps p.tables e below (T.setTop g) target) ∨
    (∃ (q : Addr) (vm₁ : Vm) (B : Pt), s.WarmedH vm₁ ∧ Stand p l e R s m args below meth c B.U B.locs B.cells B.slots ∧ PostX ⟨T.setVm vm₁, locs, cells, slots⟩ argsL.toArray q B ∧
      Steps p.tables e below (T.setTop g) ((B.U.setTop { g with stack := rest }).pushFrame (.throwing q))) := by
  obtain ⟨mk, methM, cM, hnamed, hmethM, -, -, -, -, -, -, hsigM⟩ := Cond.codeWith_spec hcode
  have hstatic : methM.isStatic = true := Cond.static_spec hnamed hmethM hstat
  obtain ⟨kP, hkP, -⟩ := className_of_methodNamed hnamed
  have hinitP : kP.init = .initialized := Cond.initialized_spec (findClass_of_methodNamed hnamed) hkP hinit
  obtain ⟨vm₁, X₁, hstep₁⟩ := X.invokestatic hexec hown hlink hnamed hmethM hstatic hkP hinitP hy (g := g) hg (argsL := argsL) (rest := rest) (hlen _ hsigM) hstack hdg
  rcases hK m meth c ⟨T.setVm vm₁, locs, cells, slots⟩ { g with stack := rest } (.invokestatic index) mk argsL.toArray X₁ hg hsize hdg hW (X₁.named hnamed) (hpre vm₁ X₁.warmed) with ⟨v, B, X', hpost, hsteps⟩ | ⟨q, B, X', hpost, hsteps⟩
  · exact Or.inl ⟨v, vm₁, B, X₁.warmed, X', hpost, fun target h => hstep₁ _ fun acts => by rw [doInvoke_state]; exact hsteps.trans h⟩
  · exact Or.inr ⟨q, vm₁, B, X₁.warmed, X', hpost, hstep₁ _ fun acts => by rw [doInvoke_state]; exact hsteps⟩
theorem vx_callVW (X : Stand p l e R s m args below meth c T locs cells slots) (hexec : p.tables.exec = Jvm.exec) {own C : String} {index : Nat} {y : MethodName} {bytes : ByteArray} {maxL : Nat} {ret : Option FieldType} {hh : List (Nat × Nat × Nat × Nat)}
    (hown : s.vm.findClass own = some m.cls) (hlink : (Cond.methodLink own index y).before args s = true) (hinst : (Cond.instanceMethod y).before args s = true) (hsel : (Cond.selects C y y).before args s = true)
    (hcode : (Cond.codeWith y bytes maxL ret hh).before args s = true) (hy : y.cls ≠ "java/lang/invoke/MethodHandle" ∧ y.cls ≠ "java/lang/invoke/VarHandle")
    {W9 : Nat} {Pre : Pt → Array Value → Prop} {Post : Pt → Array Value → Option Value → Pt → Prop} (hK : Back l R p e below s args y 3 W9 Pre Post)
    {b : Addr} {cellB : Cell} (hcell : T.heap[b]? = some cellB) (hobj : cellB.vm.isStatics = false) (hcls : s.vm.findClass C = some cellB.cls)
    {g : JFrame} (hg : g.method = m) (hsize : g.locals.size = c.maxLocals) {argsL rest : List Value} (hlen : ∀ sig, parseMethodDescriptor y.desc = some sig → argsL.length = sig.parameters.length)
    (hstack : g.stack = argsL.reverse ++ .ref b :: rest) (hW : 2 * g.monitorRoom + (rest.map fun v => v.category).sum ≤ W9) (hdg : decode c.code g.pc = .ok (.invokevirtual index, 3))
    (hpre : ∀ vm₁, s.WarmedH vm₁ → Pre ⟨T.setVm vm₁, locs, cells, slots⟩ (Value.ref b :: argsL).toArray) :
    ∃ (v : Option Value) (vm₁ : Vm) (B : Pt), s.WarmedH vm₁ ∧ Stand p l e R s m args below meth c B.U B.locs B.cells B.slots ∧ Post ⟨T.setVm vm₁, locs, cells, slots⟩ (Value.ref b :: argsL).toArray v B ∧
      ∀ target, Steps p.tables e below (B.U.setTop { g with pc := g.pc + 3, stack := v.toList ++ rest }) target → Steps p.tables e below (T.setTop g) target := by
  obtain ⟨mk, methM, hnamed, hmethM, hstM, habM⟩ := Cond.instanceMethod_spec hinst
  obtain ⟨m8, methM', cM, hn8, hmethM', -, -, -, -, -, -, hsigM⟩ := Cond.codeWith_spec hcode
  cases Option.some.inj (hn8.symm.trans hnamed)
  cases hmethM.symm.trans hmethM'
  obtain ⟨c2, r2, m2, q1, q2, q3, q4, kP, hkP, hkPi⟩ := Cond.selects_spec hsel
  cases hcls.symm.trans q1
  cases (State.methodFound?_of_named hnamed hy).symm.trans q2
  cases hnamed.symm.trans q3
  have hselP : selectMethod e.platform s.vm cellB.cls mk = .method mk := by rw [Launch.admits_selectMethod X.admits]; exact q4
  obtain ⟨vm₁, X₁, hstep₁⟩ := X.invokevirtual hexec hown hlink hnamed hmethM hstM hkP hkPi hy (a := b) (cell := cellB) hcell
    (fun z h => by rw [h] at hobj; cases hobj) hselP hmethM habM hkP hkPi (g := g) hg (argsL := argsL) (rest := rest) (hlen _ hsigM) hstack hdg
  obtain ⟨v, B, X', hpost, hsteps⟩ := hK m meth c ⟨T.setVm vm₁, locs, cells, slots⟩ { g with stack := rest } (.invokevirtual index) mk (Value.ref b :: argsL).toArray X₁ hg hsize hdg hW (X₁.named hnamed) (hpre vm₁ X₁.warmed)
  exact ⟨v, vm₁, B, X₁.warmed, X', hpost, fun target h => hstep₁ _ fun acts => by rw [doInvoke_state]; exact hsteps.trans h⟩
abbrev vx_CVW (R : Room) (s : State) (args : Array Value) (own C : String) (index : Nat) (y : MethodName) (bytes : ByteArray) (maxL : Nat) (ret : Option FieldType) (hh : List (Nat × Nat × Nat × Nat)) (ws : List Cond) (rm : Room) (mc ms n : Nat) : Prop :=
  (rm.cells = mc ∧ rm.slots = ms ∧ rm.frames + 1 ≤ R.frames ∧ 8 + (maxL + 11) + rm.locals ≤ R.locals ∧ (∀ w ∈ ws, ∀ (a' : Array Value) (U : State), s.WarmedH U.vm → w.before a' U = true) ∧ Cond.codeWith y bytes maxL ret hh ∈ ws) ∧
  (Cond.codeWith y bytes maxL ret hh).before args s = true ∧ (Cond.initialized y.cls).before args s = true ∧ (y.cls ≠ "java/lang/invoke/MethodHandle" ∧ y.cls ≠ "java/lang/invoke/VarHandle") ∧
  (∀ sig, parseMethodDescriptor y.desc = some sig → n = sig.parameters.length) ∧ (Cond.methodLink own index y).before args s = true ∧ (Cond.instanceMethod y).before args s = true ∧ (Cond.selects C y y).before args s = true
theorem vx_cwVW {own C : String} {index maxL mc ms : Nat} {y : MethodName} {bytes : ByteArray} {ret : Option FieldType} {hh : List (Nat × Nat × Nat × Nat)} {Ts ws ws' : List Cond} {rm : Room} (n : Nat) (ht : ∀ w ∈ Ts, w.before args s = true) (hT : GoodIn Ts (wsV own index C y ws)) (hw : ws = Cond.codeWith y bytes maxL ret hh :: ws') (hrc : rm.cells = mc) (hrs : rm.slots = ms)
    (hd : y.cls = C ∧ y.cls ≠ "java/lang/invoke/MethodHandle" ∧ y.cls ≠ "java/lang/invoke/VarHandle" ∧ (parseMethodDescriptor y.desc).map (fun d => d.parameters.length) = some n) (hR : rm.frames + 1 ≤ R.frames ∧ 8 + (maxL + 11) + rm.locals ≤ R.locals) :
    vx_CVW R s args own C index y bytes maxL ret hh ws rm mc ms n := by
  obtain ⟨hC, hd⟩ := hd
  subst hC
  have ok : ∀ w ∈ wsV own index y.cls y ws, w.before args s = true := fun w h => ht w (hT w h).1
  have hG : GoodIn Ts ws := fun w h => hT w (by unfold wsV; exact List.mem_append_right _ h)
  have hc : Cond.codeWith y bytes maxL ret hh ∈ ws := by rw [hw]; exact List.mem_cons_self
  refine ⟨⟨hrc, hrs, hR.1, hR.2, pay_in ht hG, hc⟩, ht _ (hG _ hc).1, ok _ (by simp [wsV]), ⟨hd.1, hd.2.1⟩, fun sig h => ?_, ok _ (by simp [wsV]), ok _ (by simp [wsV]), ok _ (by simp [wsV])⟩
  have h2 := hd.2.2
  rw [h] at h2
  exact (Option.some.inj h2).symm
theorem vx_runVW {y : MethodName} {bytes cc : ByteArray} {maxL nL mc ms n index : Nat} {ret : Option FieldType} {hh : List (Nat × Nat × Nat × Nat)} {ws : List Cond} {rm : Room} {Pc : Array Value → State → Prop} {Qc : Array Value → State → Outcome → State → Prop} {free : Addr → Prop} {Ts : List Cond} {own C : String} {b : Addr} {As rest : List Value} {g : JFrame}
    (S : CallFix p m c cc nL s args Ts own) (hM : Met l y ws rm Pc Qc mc ms free) (cw : vx_CVW R s args own C index y bytes maxL ret hh ws rm mc ms n) (hp : PreV s H C b Pc As)
    (hg : g.method = m) (hn : As.length = n) (hsize : g.locals.size = nL) (hstack : g.stack = As.reverse ++ .ref b :: rest) (hW : 2 * g.monitorRoom + (rest.map fun v => v.category).sum ≤ 8) (hdg : decode cc g.pc = .ok (.invokevirtual index, 3)) (hf : cells + mc ≤ R.cells ∧ slots + ms ≤ R.slots) :
    va_Run p l e R s m args below meth c H locs cells slots mc ms g rest (Qc (Value.ref b :: As).toArray) free := by
  obtain ⟨⟨hrc, hrs, hfr, hlo, hws, hcw⟩, hcode, hini, hy, hlen, hl, hin, hse⟩ := cw
  have hK : Back l R p e below s args y 3 8 (PreOf R mc ms Pc) (PostOf Qc mc ms free) := va_backW (hh := hh) (bytes := bytes) (maxL := maxL) (ret := ret) hM hp.1 hrc hrs hfr hlo hws hcw (fun a' U hW => word_at hW (Or.inl (by first | rfl | simp [Cond.onTables, Cond.keeps, Cond.steady])) hini)
  obtain ⟨hx, hb, hml, ho, -⟩ := S
  obtain ⟨-, ⟨cellB, hcB, hoB, hclB⟩, hPc⟩ := hp
  intro T hT X
  obtain ⟨v, vm₁, ⟨U', l2, c2, s2⟩, hW₁, X', ⟨g', mk, t, L, e1, e2, hq, h1, hL, h2, h3⟩, st⟩ := vx_callVW X hx (C := C) (hh := hh) (bytes := bytes) (maxL := maxL) (ret := ret) ho hl hin hse hcode hy hK (by rw [hT]; exact hcB) hoB hclB hg (hsize.trans hml.symm) (argsL := As) (rest := rest) (fun sig h => hn.trans (hlen sig h)) hstack hW (by rw [hb]; exact hdg)
    (fun vm₁ hW₁ => ⟨hf.1, hf.2, hPc (T.setVm vm₁) hT hW₁⟩)
  dsimp only [Pt.U, Pt.locs, Pt.cells, Pt.slots] at X' e1 e2 h1 h2 h3 st
  subst h1; subst h2; subst h3
  exact ⟨v, (T.setVm vm₁).calling g' mk (Value.ref b :: As).toArray, t, U', L, hT, X', hL, e1, e2, hq, st⟩
section
variable {y : MethodName} {bytes cc : ByteArray} {maxL nL mc ms n index : Nat} {ret : Option FieldType} {ws : List Cond} {rm : Room} {Pc : Array Value → State → Prop} {Qc : Array Value → State → Outcome → State → Prop} {XC : String → State → State → Prop} {free : Addr → Prop} {Ts : List Cond} {own C : String} {b : Addr} {As rest : List Value} {g : JFrame}
theorem vx_runVX {hh : List (Nat × Nat × Nat × Nat)} (S : CallFix p m c cc nL s args Ts own) (hM : vx_Met l y ws rm Pc Qc XC mc ms free) (cw : vx_CVW R s args own C index y bytes maxL ret hh ws rm mc ms n) (hp : PreV s H C b Pc As)
    (hg : g.method = m) (hn : As.length = n) (hsize : g.locals.size = nL) (hstack : g.stack = As.reverse ++ .ref b :: rest) (hW : 2 * g.monitorRoom + (rest.map fun v => v.category).sum ≤ 8) (hdg : decode cc g.pc = .ok (.invokevirtual index, 3)) (hf : cells + mc ≤ R.cells ∧ slots + ms ≤ R.slots) :
    vx_Run p l e R s m args below meth c H locs cells slots mc ms g rest (Qc (Value.ref b :: As).toArray) XC free := by
  obtain ⟨⟨hrc, hrs, hfr, hlo, hws, hcw⟩, hcode, hini, hy, hlen, hl, hin, hse⟩ := cw
  have hK : vx_Back l R p e below s args y 3 8 (PreOf R mc ms Pc) (PostOf Qc mc ms free) (vx_Post XC mc ms free) := vx_backW (hh := hh) (bytes := bytes) (maxL := maxL) (ret := ret) hM hp.1 hrc hrs hfr hlo hws hcw (fun a' U hW => word_at hW (Or.inl (by first | rfl | simp [Cond.onTables, Cond.keeps, Cond.steady])) hini)
  obtain ⟨hx, hb, hml, ho, -⟩ := S
  obtain ⟨-, ⟨cellB, hcB, hoB, hclB⟩, hPc⟩ := hp
  intro T hT X
  rcases vx_callVX X hx (C := C) (hh := hh) (bytes := bytes) (maxL := maxL) (ret := ret) ho hl hin hse hcode hy hK (by rw [hT]; exact hcB) hoB hclB hg (hsize.trans hml.symm) (argsL := As) (rest := rest) (fun sig h => hn.trans (hlen sig h)) hstack hW (by rw [hb]; exact hdg)
    (fun vm₁ hW₁ => ⟨hf.1, hf.2, hPc (T.setVm vm₁) hT hW₁⟩) with ⟨v, vm₁, ⟨U', l2, c2, s2⟩, hW₁, X', ⟨g', mk, t, L, e1, e2, hq, h1, hL, h2, h3⟩, st⟩ | ⟨q, vm₁, ⟨U', l2, c2, s2⟩, hW₁, X', ⟨g', mk, t, L, E, ce, e1, e2, hq, hce, hcv, hcl, h1, hL, h2, h3⟩, st⟩
  · dsimp only [Pt.U, Pt.locs, Pt.cells, Pt.slots] at X' e1 e2 h1 h2 h3 st
    subst h1; subst h2; subst h3
    exact Or.inl ⟨v, (T.setVm vm₁).calling g' mk (Value.ref b :: As).toArray, t, U', L, hT, X', hL, e1, e2, hq, st⟩
  · dsimp only [Pt.U, Pt.locs, Pt.cells, Pt.slots] at X' e1 e2 h1 h2 h3 st hcl
    subst h1; subst h2; subst h3
    exact Or.inr ⟨q, (T.setVm vm₁).calling g' mk (Value.ref b :: As).toArray, t, U', L, E, ce, hT, X', hL, e1, e2, hq, hce, hcv, vx_cls hW₁ hcl, st⟩
theorem vx_runSX {hh : List (Nat × Nat × Nat × Nat)} (S : CallFix p m c cc nL s args Ts own) (hM : vx_Met l y ws rm Pc Qc XC mc ms free) (cw : vx_CSW R s args own index y bytes maxL ret hh ws rm mc ms n) (hp : PreS s H Pc As)
    (hg : g.method = m) (hn : As.length = n) (hsize : g.locals.size = nL) (hstack : g.stack = As.reverse ++ rest) (hW : 2 * g.monitorRoom + (rest.map fun v => v.category).sum ≤ 8) (hdg : decode cc g.pc = .ok (.invokestatic index, 3)) (hf : cells + mc ≤ R.cells ∧ slots + ms ≤ R.slots) :
    vx_Run p l e R s m args below meth c H locs cells slots mc ms g rest (Qc As.toArray) XC free := by
  obtain ⟨⟨hrc, hrs, hfr, hlo, hws, hcw⟩, hcode, hini, hy, hlen, hl, hstt⟩ := cw
  have hK : vx_Back l R p e below s args y 3 8 (PreOf R mc ms Pc) (PostOf Qc mc ms free) (vx_Post XC mc ms free) := vx_backW (hh := hh) (bytes := bytes) (maxL := maxL) (ret := ret) hM hp.1 hrc hrs hfr hlo hws hcw (fun a' U hW => word_at hW (Or.inl (by first | rfl | simp [Cond.onTables, Cond.keeps, Cond.steady])) hini)
  obtain ⟨hx, hb, hml, ho, -⟩ := S
  intro T hT X
  rcases vx_callSX X hx (hh := hh) (bytes := bytes) (maxL := maxL) (ret := ret) ho hl hstt hini hcode hy hK hg (hsize.trans hml.symm) (argsL := As) (rest := rest) (fun sig h => hn.trans (hlen sig h)) hstack hW (by rw [hb]; exact hdg)
    (fun vm₁ hW₁ => ⟨hf.1, hf.2, hp.2 (T.setVm vm₁) hT hW₁⟩) with ⟨v, vm₁, ⟨U', l2, c2, s2⟩, hW₁, X', ⟨g', mk, t, L, e1, e2, hq, h1, hL, h2, h3⟩, st⟩ | ⟨q, vm₁, ⟨U', l2, c2, s2⟩, hW₁, X', ⟨g', mk, t, L, E, ce, e1, e2, hq, hce, hcv, hcl, h1, hL, h2, h3⟩, st⟩
  · dsimp only [Pt.U, Pt.locs, Pt.cells, Pt.slots] at X' e1 e2 h1 h2 h3 st
    subst h1; subst h2; subst h3
    exact Or.inl ⟨v, (T.setVm vm₁).calling g' mk As.toArray, t, U', L, hT, X', hL, e1, e2, hq, st⟩
  · dsimp only [Pt.U, Pt.locs, Pt.cells, Pt.slots] at X' e1 e2 h1 h2 h3 st hcl
    subst h1; subst h2; subst h3
    exact Or.inr ⟨q, (T.setVm vm₁).calling g' mk As.toArray, t, U', L, E, ce, hT, X', hL, e1, e2, hq, hce, hcv, vx_cls hW₁ hcl, st⟩
end
end VXH
theorem vx_ofWH {l : Launch} {y : MethodName} {ws ws' : List Cond} {rm : Room} {Pc : Array Value → State → Prop} {Qc : Array Value → State → Outcome → State → Prop} {XC : String → State → State → Prop} {mc ms : Nat} {free : Addr → Prop} {cc : ByteArray} {maxL : Nat} {ret : Option FieldType} {hh : List (Nat × Nat × Nat × Nat)}
    (hy : plainName y.cls = true) (hw : ws = Cond.codeWith y cc maxL ret hh :: ws')
    (body : ∀ p e s m args below meth c s₁, BodyLoose p l y (headSpec ws rm) cc maxL ret e s m args below meth c s₁ → c.maxLocals = maxL → Pc args s →
      W p l e (headSpec ws rm).room s m args below meth c s.heap [] 0 0 (vx_MQ below Qc XC args s mc ms free) (entryFrame m args maxL)) : vx_Met l y ws rm Pc Qc XC mc ms free := by
  refine MetFree.of_bodyS (code := cc) (maxLocals := maxL) (ret := ret) hy ?_ ?_
  · intro args s m h hn
    obtain ⟨m9, meth, c, hn9, h1, h2, h3, h4, -, h5, h6, -⟩ := Cond.codeWith_spec (atoms_spec (ws := ws) h _ (by rw [hw]; exact List.mem_cons_self))
    cases hn.symm.trans hn9
    exact ⟨meth, c, h1, h2, h3, h4, h5, h6⟩
  · intro p e s m args below meth c s₁ B hml hP _
    have hh0 : s₁.heap = s.heap := by rw [B.state]; rfl
    obtain ⟨t, a1, o, b1, b2, b3⟩ := body p e s m args below meth c s₁ B hml hP s₁ hh0 (Stand.of_body B)
    exact ⟨t, o, a1, b1, b2, b3⟩
/-! ===== END ===== -/
end
section
/-! ===== BEGIN printed: names, fields, word lists, decode rows ===== -/
def RX0 : String := "KilnYard$Clay"
def TX0 : u_T := fun k => match k with
  | 0 => ("KilnYard$Clay", "top", "I", true)
  | _ => ("KilnYard$Clay", "growth", "D", true)
def tyX0 : Nat → FieldType := fun k => match k with
  | 0 => .int
  | _ => .double
theorem nmX0 : ∀ a, a < 2 → ∀ b, b < 2 → a ≠ b → (TX0 a).2.1 ≠ (TX0 b).2.1 := by decide +kernel
theorem tyX0_ok : ∀ k, k < 2 → parseFieldDescriptor (TX0 k).2.2.1 = some (tyX0 k) := by decide +kernel
abbrev cX0_init : ByteArray := prog_2_method_1_code
def yX0_init : MethodName := ⟨RX0, "<init>", "(II)V"⟩
def RX1 : String := "KilnYard$Glaze"
def TX1 : u_T := fun k => match k with
  | 0 => ("KilnYard$Glaze", "number", "I", true)
  | 1 => ("KilnYard$Glaze", "alumina", "I", true)
  | 2 => ("KilnYard$Glaze", "silica", "I", true)
  | 3 => ("KilnYard$Glaze", "iron", "I", true)
  | 4 => ("KilnYard$Glaze", "melts", "I", true)
  | _ => ("KilnYard$Glaze", "growth", "D", true)
def tyX1 : Nat → FieldType := fun k => match k with
  | 0 => .int
  | 1 => .int
  | 2 => .int
  | 3 => .int
  | 4 => .int
  | _ => .double
theorem nmX1 : ∀ a, a < 6 → ∀ b, b < 6 → a ≠ b → (TX1 a).2.1 ≠ (TX1 b).2.1 := by decide +kernel
theorem tyX1_ok : ∀ k, k < 6 → parseFieldDescriptor (TX1 k).2.2.1 = some (tyX1 k) := by decide +kernel
abbrev cX1_init : ByteArray := prog_3_method_1_code
def yX1_init : MethodName := ⟨RX1, "<init>", "(IIIIII)V"⟩
abbrev cX1_rounded : ByteArray := prog_3_method_2_code
def yX1_rounded : MethodName := ⟨RX1, "rounded", "(D)I"⟩
abbrev cX1_silicaToAlumina : ByteArray := prog_3_method_3_code
def yX1_silicaToAlumina : MethodName := ⟨RX1, "silicaToAlumina", "()D"⟩
abbrev cX1_marksOn : ByteArray := prog_3_method_4_code
def yX1_marksOn : MethodName := ⟨RX1, "marksOn", "(LKilnYard$Clay;I)I"⟩
abbrev cX1_distanceTo : ByteArray := prog_3_method_5_code
def yX1_distanceTo : MethodName := ⟨RX1, "distanceTo", "(LKilnYard$Clay;)D"⟩
def RX2 : String := "KilnYard$Kiln"
def TX2 : u_T := fun k => match k with
  | 0 => ("KilnYard$Kiln", "program", "LKilnYard$Program;", true)
  | 1 => ("KilnYard$Kiln", "heat", "D", false)
  | 2 => ("KilnYard$Kiln", "heatBefore", "D", false)
  | 3 => ("KilnYard$Kiln", "power", "F", false)
  | 4 => ("KilnYard$Kiln", "damper", "I", false)
  | 5 => ("KilnYard$Kiln", "isOpen", "Z", false)
  | 6 => ("KilnYard$Kiln", "isLit", "Z", false)
  | 7 => ("KilnYard$Kiln", "at", "I", false)
  | 8 => ("KilnYard$Kiln", "held", "I", false)
  | 9 => ("KilnYard$Kiln", "clock", "I", false)
  | 10 => ("KilnYard$Kiln", "fuel", "I", false)
  | 11 => ("KilnYard$Kiln", "stalls", "I", false)
  | _ => ("KilnYard$Kiln", "works", "[D", true)
def tyX2 : Nat → FieldType := fun k => match k with
  | 0 => .object "KilnYard$Program"
  | 1 => .double
  | 2 => .double
  | 3 => .float
  | 4 => .int
  | 5 => .boolean
  | 6 => .boolean
  | 7 => .int
  | 8 => .int
  | 9 => .int
  | 10 => .int
  | 11 => .int
  | _ => .array .double
theorem nmX2 : ∀ a, a < 13 → ∀ b, b < 13 → a ≠ b → (TX2 a).2.1 ≠ (TX2 b).2.1 := by decide +kernel
theorem tyX2_ok : ∀ k, k < 13 → parseFieldDescriptor (TX2 k).2.2.1 = some (tyX2 k) := by decide +kernel
abbrev cX2_init : ByteArray := prog_4_method_1_code
def yX2_init : MethodName := ⟨RX2, "<init>", "(LKilnYard$Program;)V"⟩
abbrev cX2_becomeLike : ByteArray := prog_4_method_2_code
def yX2_becomeLike : MethodName := ⟨RX2, "becomeLike", "(LKilnYard$Kiln;)V"⟩
abbrev cX2_hotAt : ByteArray := prog_4_method_3_code
def yX2_hotAt : MethodName := ⟨RX2, "hotAt", "(ID)D"⟩
abbrev cX2_isInReach : ByteArray := prog_4_method_4_code
def yX2_isInReach : MethodName := ⟨RX2, "isInReach", "()Z"⟩
abbrev cX2_gives : ByteArray := prog_4_method_5_code
def yX2_gives : MethodName := ⟨RX2, "gives", "()D"⟩
abbrev cX2_workOf : ByteArray := prog_4_method_6_code
def yX2_workOf : MethodName := ⟨RX2, "workOf", "(I)D"⟩
abbrev cX2_coneOf : ByteArray := prog_4_method_7_code
def yX2_coneOf : MethodName := ⟨RX2, "coneOf", "(I)I"⟩
abbrev cX2_kindle : ByteArray := prog_4_method_8_code
def yX2_kindle : MethodName := ⟨RX2, "kindle", "()V"⟩
abbrev cX2_step : ByteArray := prog_4_method_9_code
def yX2_step : MethodName := ⟨RX2, "step", "()V"⟩
abbrev cX2_passRamps : ByteArray := prog_4_method_10_code
def yX2_passRamps : MethodName := ⟨RX2, "passRamps", "()V"⟩
abbrev cX2_follow : ByteArray := prog_4_method_11_code
def yX2_follow : MethodName := ⟨RX2, "follow", "(LKilnYard$Ramp;)V"⟩
abbrev cX2_rise : ByteArray := prog_4_method_12_code
def yX2_rise : MethodName := ⟨RX2, "rise", "(LKilnYard$Ramp;)V"⟩
abbrev cX2_fall : ByteArray := prog_4_method_13_code
def yX2_fall : MethodName := ⟨RX2, "fall", "(LKilnYard$Ramp;)V"⟩
abbrev cX2_coolDown : ByteArray := prog_4_method_14_code
def yX2_coolDown : MethodName := ⟨RX2, "coolDown", "()V"⟩
abbrev cX2_payFuel : ByteArray := prog_4_method_15_code
def yX2_payFuel : MethodName := ⟨RX2, "payFuel", "()V"⟩
abbrev cX2_addWork : ByteArray := prog_4_method_16_code
def yX2_addWork : MethodName := ⟨RX2, "addWork", "()V"⟩
abbrev cX2_clearWorks : ByteArray := prog_4_method_17_code
def yX2_clearWorks : MethodName := ⟨RX2, "clearWorks", "()V"⟩
def RX3 : String := "KilnYard$Order"
def TX3 : u_T := fun k => match k with
  | 0 => ("KilnYard$Order", "glaze", "I", true)
  | 1 => ("KilnYard$Order", "colour", "I", true)
  | 2 => ("KilnYard$Order", "due", "I", true)
  | 3 => ("KilnYard$Order", "price", "I", true)
  | _ => ("KilnYard$Order", "isMet", "Z", false)
def tyX3 : Nat → FieldType := fun k => match k with
  | 0 => .int
  | 1 => .int
  | 2 => .int
  | 3 => .int
  | _ => .boolean
theorem nmX3 : ∀ a, a < 5 → ∀ b, b < 5 → a ≠ b → (TX3 a).2.1 ≠ (TX3 b).2.1 := by decide +kernel
theorem tyX3_ok : ∀ k, k < 5 → parseFieldDescriptor (TX3 k).2.2.1 = some (tyX3 k) := by decide +kernel
abbrev cX3_init : ByteArray := prog_5_method_1_code
def yX3_init : MethodName := ⟨RX3, "<init>", "(IIII)V"⟩
abbrev cX3_worthOf : ByteArray := prog_5_method_2_code
def yX3_worthOf : MethodName := ⟨RX3, "worthOf", "(LKilnYard$Pot;I)I"⟩
def RX4 : String := "KilnYard$Pot"
def TX4 : u_T := fun k => match k with
  | 0 => ("KilnYard$Pot", "clay", "LKilnYard$Clay;", true)
  | 1 => ("KilnYard$Pot", "width", "I", true)
  | 2 => ("KilnYard$Pot", "height", "I", true)
  | 3 => ("KilnYard$Pot", "wall", "I", true)
  | 4 => ("KilnYard$Pot", "glaze", "LKilnYard$Glaze;", false)
  | 5 => ("KilnYard$Pot", "state", "I", false)
  | 6 => ("KilnYard$Pot", "water", "F", false)
  | 7 => ("KilnYard$Pot", "isCovered", "Z", false)
  | 8 => ("KilnYard$Pot", "smoke", "I", false)
  | 9 => ("KilnYard$Pot", "marks", "I", false)
  | 10 => ("KilnYard$Pot", "shelf", "I", false)
  | _ => ("KilnYard$Pot", "cell", "I", false)
def tyX4 : Nat → FieldType := fun k => match k with
  | 0 => .object "KilnYard$Clay"
  | 1 => .int
  | 2 => .int
  | 3 => .int
  | 4 => .object "KilnYard$Glaze"
  | 5 => .int
  | 6 => .float
  | 7 => .boolean
  | 8 => .int
  | 9 => .int
  | 10 => .int
  | _ => .int
theorem nmX4 : ∀ a, a < 12 → ∀ b, b < 12 → a ≠ b → (TX4 a).2.1 ≠ (TX4 b).2.1 := by decide +kernel
theorem tyX4_ok : ∀ k, k < 12 → parseFieldDescriptor (TX4 k).2.2.1 = some (tyX4 k) := by decide +kernel
abbrev cX4_init : ByteArray := prog_6_method_1_code
def yX4_init : MethodName := ⟨RX4, "<init>", "(LKilnYard$Clay;III)V"⟩
abbrev cX4_glazeNumber : ByteArray := prog_6_method_2_code
def yX4_glazeNumber : MethodName := ⟨RX4, "glazeNumber", "()I"⟩
abbrev cX4_colour : ByteArray := prog_6_method_3_code
def yX4_colour : MethodName := ⟨RX4, "colour", "()I"⟩
abbrev cX4_canBeSet : ByteArray := prog_6_method_4_code
def yX4_canBeSet : MethodName := ⟨RX4, "canBeSet", "()Z"⟩
abbrev cX4_isReady : ByteArray := prog_6_method_5_code
def yX4_isReady : MethodName := ⟨RX4, "isReady", "()Z"⟩
abbrev cX4_leaveShelf : ByteArray := prog_6_method_6_code
def yX4_leaveShelf : MethodName := ⟨RX4, "leaveShelf", "()V"⟩
abbrev cX4_loseWater : ByteArray := prog_6_method_7_code
def yX4_loseWater : MethodName := ⟨RX4, "loseWater", "(I)V"⟩
abbrev cX4_feel : ByteArray := prog_6_method_8_code
def yX4_feel : MethodName := ⟨RX4, "feel", "(DDZ)V"⟩
abbrev cX4_fire : ByteArray := prog_6_method_9_code
def yX4_fire : MethodName := ⟨RX4, "fire", "(I)V"⟩
def RX5 : String := "KilnYard$Program"
def TX5 : u_T := fun k => match k with
  | 0 => ("KilnYard$Program", "ramps", "[LKilnYard$Ramp;", true)
  | _ => ("KilnYard$Program", "count", "I", false)
def tyX5 : Nat → FieldType := fun k => match k with
  | 0 => .array (.object "KilnYard$Ramp")
  | _ => .int
theorem nmX5 : ∀ a, a < 2 → ∀ b, b < 2 → a ≠ b → (TX5 a).2.1 ≠ (TX5 b).2.1 := by decide +kernel
theorem tyX5_ok : ∀ k, k < 2 → parseFieldDescriptor (TX5 k).2.2.1 = some (tyX5 k) := by decide +kernel
abbrev cX5_init : ByteArray := prog_7_method_1_code
def yX5_init : MethodName := ⟨RX5, "<init>", "()V"⟩
abbrev cX5_rampAt : ByteArray := prog_7_method_2_code
def yX5_rampAt : MethodName := ⟨RX5, "rampAt", "(I)LKilnYard$Ramp;"⟩
def RX6 : String := "KilnYard$Ramp"
def TX6 : u_T := fun k => match k with
  | 0 => ("KilnYard$Ramp", "rate", "I", true)
  | 1 => ("KilnYard$Ramp", "target", "I", true)
  | _ => ("KilnYard$Ramp", "hold", "I", true)
def tyX6 : Nat → FieldType := fun k => match k with
  | 0 => .int
  | 1 => .int
  | _ => .int
theorem nmX6 : ∀ a, a < 3 → ∀ b, b < 3 → a ≠ b → (TX6 a).2.1 ≠ (TX6 b).2.1 := by decide +kernel
theorem tyX6_ok : ∀ k, k < 3 → parseFieldDescriptor (TX6 k).2.2.1 = some (tyX6 k) := by decide +kernel
abbrev cX6_init : ByteArray := prog_8_method_1_code
def yX6_init : MethodName := ⟨RX6, "<init>", "(III)V"⟩
def RX7 : String := "KilnYard"
def TX7 : u_T := fun k => match k with
  | 0 => ("KilnYard", "clays", "[LKilnYard$Clay;", true)
  | 1 => ("KilnYard", "glazes", "[LKilnYard$Glaze;", true)
  | 2 => ("KilnYard", "pots", "[LKilnYard$Pot;", true)
  | 3 => ("KilnYard", "orders", "[LKilnYard$Order;", true)
  | 4 => ("KilnYard", "clayCount", "I", false)
  | 5 => ("KilnYard", "glazeCount", "I", false)
  | 6 => ("KilnYard", "potCount", "I", false)
  | 7 => ("KilnYard", "orderCount", "I", false)
  | 8 => ("KilnYard", "program", "LKilnYard$Program;", true)
  | 9 => ("KilnYard", "real", "LKilnYard$Kiln;", true)
  | 10 => ("KilnYard", "trial", "LKilnYard$Kiln;", true)
  | 11 => ("KilnYard", "day", "I", false)
  | 12 => ("KilnYard", "purse", "I", false)
  | _ => ("KilnYard", "refused", "I", false)
def tyX7 : Nat → FieldType := fun k => match k with
  | 0 => .array (.object "KilnYard$Clay")
  | 1 => .array (.object "KilnYard$Glaze")
  | 2 => .array (.object "KilnYard$Pot")
  | 3 => .array (.object "KilnYard$Order")
  | 4 => .int
  | 5 => .int
  | 6 => .int
  | 7 => .int
  | 8 => .object "KilnYard$Program"
  | 9 => .object "KilnYard$Kiln"
  | 10 => .object "KilnYard$Kiln"
  | 11 => .int
  | 12 => .int
  | _ => .int
theorem nmX7 : ∀ a, a < 14 → ∀ b, b < 14 → a ≠ b → (TX7 a).2.1 ≠ (TX7 b).2.1 := by decide +kernel
theorem tyX7_ok : ∀ k, k < 14 → parseFieldDescriptor (TX7 k).2.2.1 = some (tyX7 k) := by decide +kernel
abbrev cX7_init : ByteArray := prog_1_method_1_code
def yX7_init : MethodName := ⟨RX7, "<init>", "()V"⟩
abbrev cX7_clay : ByteArray := prog_1_method_2_code
def yX7_clay : MethodName := ⟨RX7, "clay", "(II)I"⟩
abbrev cX7_glaze : ByteArray := prog_1_method_3_code
def yX7_glaze : MethodName := ⟨RX7, "glaze", "(IIIII)I"⟩
abbrev cX7_pot : ByteArray := prog_1_method_4_code
def yX7_pot : MethodName := ⟨RX7, "pot", "(IIII)I"⟩
abbrev cX7_cover : ByteArray := prog_1_method_5_code
def yX7_cover : MethodName := ⟨RX7, "cover", "(IZ)Z"⟩
abbrev cX7_dry : ByteArray := prog_1_method_6_code
def yX7_dry : MethodName := ⟨RX7, "dry", "(II)I"⟩
abbrev cX7_dip : ByteArray := prog_1_method_7_code
def yX7_dip : MethodName := ⟨RX7, "dip", "(II)I"⟩
abbrev cX7_set : ByteArray := prog_1_method_8_code
def yX7_set : MethodName := ⟨RX7, "set", "(III)I"⟩
abbrev cX7_take : ByteArray := prog_1_method_9_code
def yX7_take : MethodName := ⟨RX7, "take", "(I)I"⟩
abbrev cX7_ramp : ByteArray := prog_1_method_10_code
def yX7_ramp : MethodName := ⟨RX7, "ramp", "(III)I"⟩
abbrev cX7_forget : ByteArray := prog_1_method_11_code
def yX7_forget : MethodName := ⟨RX7, "forget", "()I"⟩
abbrev cX7_light : ByteArray := prog_1_method_12_code
def yX7_light : MethodName := ⟨RX7, "light", "()I"⟩
abbrev cX7_burn : ByteArray := prog_1_method_13_code
def yX7_burn : MethodName := ⟨RX7, "burn", "(I)Z"⟩
abbrev cX7_damper : ByteArray := prog_1_method_14_code
def yX7_damper : MethodName := ⟨RX7, "damper", "(I)I"⟩
abbrev cX7_door : ByteArray := prog_1_method_15_code
def yX7_door : MethodName := ⟨RX7, "door", "(Z)Z"⟩
abbrev cX7_bell : ByteArray := prog_1_method_16_code
def yX7_bell : MethodName := ⟨RX7, "bell", "()I"⟩
abbrev cX7_unload : ByteArray := prog_1_method_17_code
def yX7_unload : MethodName := ⟨RX7, "unload", "()I"⟩
abbrev cX7_order : ByteArray := prog_1_method_18_code
def yX7_order : MethodName := ⟨RX7, "order", "(IIII)I"⟩
abbrev cX7_meet : ByteArray := prog_1_method_19_code
def yX7_meet : MethodName := ⟨RX7, "meet", "(II)I"⟩
abbrev cX7_ofPot : ByteArray := prog_1_method_20_code
def yX7_ofPot : MethodName := ⟨RX7, "ofPot", "(II)I"⟩
abbrev cX7_water : ByteArray := prog_1_method_21_code
def yX7_water : MethodName := ⟨RX7, "water", "(I)D"⟩
abbrev cX7_ofGlaze : ByteArray := prog_1_method_22_code
def yX7_ofGlaze : MethodName := ⟨RX7, "ofGlaze", "(II)D"⟩
abbrev cX7_kiln : ByteArray := prog_1_method_23_code
def yX7_kiln : MethodName := ⟨RX7, "kiln", "(I)D"⟩
abbrev cX7_ofShelf : ByteArray := prog_1_method_24_code
def yX7_ofShelf : MethodName := ⟨RX7, "ofShelf", "(II)I"⟩
abbrev cX7_many : ByteArray := prog_1_method_25_code
def yX7_many : MethodName := ⟨RX7, "many", "(I)I"⟩
abbrev cX7_wouldCone : ByteArray := prog_1_method_26_code
def yX7_wouldCone : MethodName := ⟨RX7, "wouldCone", "(II)I"⟩
abbrev cX7_wouldEnd : ByteArray := prog_1_method_27_code
def yX7_wouldEnd : MethodName := ⟨RX7, "wouldEnd", "()I"⟩
abbrev cX7_best : ByteArray := prog_1_method_28_code
def yX7_best : MethodName := ⟨RX7, "best", "(II)I"⟩
abbrev cX7_wouldHold : ByteArray := prog_1_method_29_code
def yX7_wouldHold : MethodName := ⟨RX7, "wouldHold", "(I)I"⟩
abbrev cX7_digest : ByteArray := prog_1_method_30_code
def yX7_digest : MethodName := ⟨RX7, "digest", "()J"⟩
abbrev cX7_withPot : ByteArray := prog_1_method_31_code
def yX7_withPot : MethodName := ⟨RX7, "withPot", "(JI)J"⟩
abbrev cX7_withShelf : ByteArray := prog_1_method_32_code
def yX7_withShelf : MethodName := ⟨RX7, "withShelf", "(JI)J"⟩
abbrev cX7_isWithin : ByteArray := prog_1_method_33_code
def yX7_isWithin : MethodName := ⟨RX7, "isWithin", "(III)Z"⟩
abbrev cX7_isPart : ByteArray := prog_1_method_34_code
def yX7_isPart : MethodName := ⟨RX7, "isPart", "(I)Z"⟩
abbrev cX7_testShelf : ByteArray := prog_1_method_35_code
def yX7_testShelf : MethodName := ⟨RX7, "testShelf", "(I)V"⟩
abbrev cX7_testSteps : ByteArray := prog_1_method_36_code
def yX7_testSteps : MethodName := ⟨RX7, "testSteps", "(I)V"⟩
abbrev cX7_clayAt : ByteArray := prog_1_method_37_code
def yX7_clayAt : MethodName := ⟨RX7, "clayAt", "(I)LKilnYard$Clay;"⟩
abbrev cX7_glazeAt : ByteArray := prog_1_method_38_code
def yX7_glazeAt : MethodName := ⟨RX7, "glazeAt", "(I)LKilnYard$Glaze;"⟩
abbrev cX7_potAt : ByteArray := prog_1_method_39_code
def yX7_potAt : MethodName := ⟨RX7, "potAt", "(I)LKilnYard$Pot;"⟩
abbrev cX7_orderAt : ByteArray := prog_1_method_40_code
def yX7_orderAt : MethodName := ⟨RX7, "orderAt", "(I)LKilnYard$Order;"⟩
abbrev cX7_dryOneDay : ByteArray := prog_1_method_41_code
def yX7_dryOneDay : MethodName := ⟨RX7, "dryOneDay", "(I)V"⟩
abbrev cX7_heatPots : ByteArray := prog_1_method_42_code
def yX7_heatPots : MethodName := ⟨RX7, "heatPots", "()V"⟩
abbrev cX7_potsInState : ByteArray := prog_1_method_43_code
def yX7_potsInState : MethodName := ⟨RX7, "potsInState", "(I)I"⟩
abbrev cX7_potsOn : ByteArray := prog_1_method_44_code
def yX7_potsOn : MethodName := ⟨RX7, "potsOn", "(I)I"⟩
abbrev cX7_openOrders : ByteArray := prog_1_method_45_code
def yX7_openOrders : MethodName := ⟨RX7, "openOrders", "()I"⟩
abbrev cX7_heightOf : ByteArray := prog_1_method_46_code
def yX7_heightOf : MethodName := ⟨RX7, "heightOf", "(I)I"⟩
abbrev cX7_cellsFrom : ByteArray := prog_1_method_47_code
def yX7_cellsFrom : MethodName := ⟨RX7, "cellsFrom", "(II)I"⟩
abbrev cX7_takenCells : ByteArray := prog_1_method_48_code
def yX7_takenCells : MethodName := ⟨RX7, "takenCells", "(I)I"⟩
abbrev cX7_freeCells : ByteArray := prog_1_method_49_code
def yX7_freeCells : MethodName := ⟨RX7, "freeCells", "(I)I"⟩
abbrev cX7_longestFreeRow : ByteArray := prog_1_method_50_code
def yX7_longestFreeRow : MethodName := ⟨RX7, "longestFreeRow", "(I)I"⟩
abbrev cX7_sumsOfWidths : ByteArray := prog_1_method_51_code
def yX7_sumsOfWidths : MethodName := ⟨RX7, "sumsOfWidths", "(I)I"⟩
def RX8 : String := "KilnYardModel$Kiln"
def TX8 : u_T := fun k => match k with
  | 0 => ("KilnYardModel$Kiln", "ramps", "Ljava/util/ArrayList;", true)
  | 1 => ("KilnYardModel$Kiln", "heat", "D", false)
  | 2 => ("KilnYardModel$Kiln", "power", "F", false)
  | 3 => ("KilnYardModel$Kiln", "isDoor", "Z", false)
  | 4 => ("KilnYardModel$Kiln", "isLit", "Z", false)
  | 5 => ("KilnYardModel$Kiln", "ramp", "I", false)
  | 6 => ("KilnYardModel$Kiln", "held", "I", false)
  | 7 => ("KilnYardModel$Kiln", "clock", "I", false)
  | 8 => ("KilnYardModel$Kiln", "fuel", "I", false)
  | 9 => ("KilnYardModel$Kiln", "stalls", "I", false)
  | _ => ("KilnYardModel$Kiln", "work", "[D", true)
def tyX8 : Nat → FieldType := fun k => match k with
  | 0 => .object "java/util/ArrayList"
  | 1 => .double
  | 2 => .float
  | 3 => .boolean
  | 4 => .boolean
  | 5 => .int
  | 6 => .int
  | 7 => .int
  | 8 => .int
  | 9 => .int
  | _ => .array .double
theorem nmX8 : ∀ a, a < 11 → ∀ b, b < 11 → a ≠ b → (TX8 a).2.1 ≠ (TX8 b).2.1 := by decide +kernel
theorem tyX8_ok : ∀ k, k < 11 → parseFieldDescriptor (TX8 k).2.2.1 = some (tyX8 k) := by decide +kernel
abbrev cX8_init : ByteArray := prog_11_method_1_code
def yX8_init : MethodName := ⟨RX8, "<init>", "()V"⟩
abbrev cX8_copy : ByteArray := prog_11_method_2_code
def yX8_copy : MethodName := ⟨RX8, "copy", "()LKilnYardModel$Kiln;"⟩
abbrev cX8_gives : ByteArray := prog_11_method_3_code
def yX8_gives : MethodName := ⟨RX8, "gives", "()D"⟩
abbrev cX8_step : ByteArray := prog_11_method_4_code
def yX8_step : MethodName := ⟨RX8, "step", "()V"⟩
abbrev cX8_lit : ByteArray := prog_11_method_5_code
def yX8_lit : MethodName := ⟨RX8, "lit", "(II)V"⟩
abbrev cX8_cone : ByteArray := prog_11_method_6_code
def yX8_cone : MethodName := ⟨RX8, "cone", "(I)I"⟩
def RX9 : String := "KilnYardModel$Pot"
def TX9 : u_T := fun k => match k with
  | 0 => ("KilnYardModel$Pot", "clay", "I", true)
  | 1 => ("KilnYardModel$Pot", "width", "I", true)
  | 2 => ("KilnYardModel$Pot", "height", "I", true)
  | 3 => ("KilnYardModel$Pot", "wall", "I", true)
  | 4 => ("KilnYardModel$Pot", "glaze", "I", false)
  | 5 => ("KilnYardModel$Pot", "state", "I", false)
  | 6 => ("KilnYardModel$Pot", "water", "F", false)
  | 7 => ("KilnYardModel$Pot", "isCovered", "Z", false)
  | 8 => ("KilnYardModel$Pot", "marks", "I", false)
  | 9 => ("KilnYardModel$Pot", "shelf", "I", false)
  | 10 => ("KilnYardModel$Pot", "cell", "I", false)
  | _ => ("KilnYardModel$Pot", "smoke", "I", false)
def tyX9 : Nat → FieldType := fun k => match k with
  | 0 => .int
  | 1 => .int
  | 2 => .int
  | 3 => .int
  | 4 => .int
  | 5 => .int
  | 6 => .float
  | 7 => .boolean
  | 8 => .int
  | 9 => .int
  | 10 => .int
  | _ => .int
theorem nmX9 : ∀ a, a < 12 → ∀ b, b < 12 → a ≠ b → (TX9 a).2.1 ≠ (TX9 b).2.1 := by decide +kernel
theorem tyX9_ok : ∀ k, k < 12 → parseFieldDescriptor (TX9 k).2.2.1 = some (tyX9 k) := by decide +kernel
abbrev cX9_init : ByteArray := prog_12_method_1_code
def yX9_init : MethodName := ⟨RX9, "<init>", "(IIII)V"⟩
abbrev cX9_day : ByteArray := prog_12_method_2_code
def yX9_day : MethodName := ⟨RX9, "day", "(I)V"⟩
abbrev cX9_fail : ByteArray := prog_12_method_3_code
def yX9_fail : MethodName := ⟨RX9, "fail", "(I)V"⟩
abbrev cX9_burn : ByteArray := prog_12_method_4_code
def yX9_burn : MethodName := ⟨RX9, "burn", "(DDI)V"⟩
def RX10 : String := "KilnYardModel"
def TX10 : u_T := fun k => match k with
  | 0 => ("KilnYardModel", "thrown", "I", false)
  | 1 => ("KilnYardModel", "clays", "Ljava/util/ArrayList;", true)
  | 2 => ("KilnYardModel", "glazes", "Ljava/util/ArrayList;", true)
  | 3 => ("KilnYardModel", "pots", "Ljava/util/ArrayList;", true)
  | 4 => ("KilnYardModel", "orders", "Ljava/util/ArrayList;", true)
  | 5 => ("KilnYardModel", "kiln", "LKilnYardModel$Kiln;", true)
  | 6 => ("KilnYardModel", "day", "I", false)
  | 7 => ("KilnYardModel", "damper", "I", false)
  | 8 => ("KilnYardModel", "purse", "I", false)
  | _ => ("KilnYardModel", "refused", "I", false)
def tyX10 : Nat → FieldType := fun k => match k with
  | 0 => .int
  | 1 => .object "java/util/ArrayList"
  | 2 => .object "java/util/ArrayList"
  | 3 => .object "java/util/ArrayList"
  | 4 => .object "java/util/ArrayList"
  | 5 => .object "KilnYardModel$Kiln"
  | 6 => .int
  | 7 => .int
  | 8 => .int
  | _ => .int
theorem nmX10 : ∀ a, a < 10 → ∀ b, b < 10 → a ≠ b → (TX10 a).2.1 ≠ (TX10 b).2.1 := by decide +kernel
theorem tyX10_ok : ∀ k, k < 10 → parseFieldDescriptor (TX10 k).2.2.1 = some (tyX10 k) := by decide +kernel
abbrev cX10_isIn : ByteArray := prog_10_method_1_code
def yX10_isIn : MethodName := ⟨RX10, "isIn", "(III)Z"⟩
abbrev cX10_one : ByteArray := prog_10_method_2_code
def yX10_one : MethodName := ⟨RX10, "one", "(Z)I"⟩
abbrev cX10_init : ByteArray := prog_10_method_3_code
def yX10_init : MethodName := ⟨RX10, "<init>", "()V"⟩
abbrev cX10_thrown : ByteArray := prog_10_method_4_code
def yX10_thrown : MethodName := ⟨RX10, "thrown", "()I"⟩
abbrev cX10_refuse : ByteArray := prog_10_method_5_code
def yX10_refuse : MethodName := ⟨RX10, "refuse", "(ZI)Z"⟩
abbrev cX10_start : ByteArray := prog_10_method_6_code
def yX10_start : MethodName := ⟨RX10, "start", "(ZI)Z"⟩
abbrev cX10_isNoClay : ByteArray := prog_10_method_7_code
def yX10_isNoClay : MethodName := ⟨RX10, "isNoClay", "(I)Z"⟩
abbrev cX10_isNoGlaze : ByteArray := prog_10_method_8_code
def yX10_isNoGlaze : MethodName := ⟨RX10, "isNoGlaze", "(I)Z"⟩
abbrev cX10_isNoPot : ByteArray := prog_10_method_9_code
def yX10_isNoPot : MethodName := ⟨RX10, "isNoPot", "(I)Z"⟩
abbrev cX10_isNoShelf : ByteArray := prog_10_method_10_code
def yX10_isNoShelf : MethodName := ⟨RX10, "isNoShelf", "(I)Z"⟩
abbrev cX10_isHot : ByteArray := prog_10_method_11_code
def yX10_isHot : MethodName := ⟨RX10, "isHot", "()Z"⟩
abbrev cX10_melts : ByteArray := prog_10_method_12_code
def yX10_melts : MethodName := ⟨RX10, "melts", "(I)I"⟩
abbrev cX10_growth : ByteArray := prog_10_method_13_code
def yX10_growth : MethodName := ⟨RX10, "growth", "(I)D"⟩
abbrev cX10_growthOf : ByteArray := prog_10_method_14_code
def yX10_growthOf : MethodName := ⟨RX10, "growthOf", "(I)D"⟩
abbrev cX10_clay : ByteArray := prog_10_method_15_code
def yX10_clay : MethodName := ⟨RX10, "clay", "(II)I"⟩
abbrev cX10_glaze : ByteArray := prog_10_method_16_code
def yX10_glaze : MethodName := ⟨RX10, "glaze", "(IIIII)I"⟩
abbrev cX10_pot : ByteArray := prog_10_method_17_code
def yX10_pot : MethodName := ⟨RX10, "pot", "(IIII)I"⟩
abbrev cX10_cover : ByteArray := prog_10_method_18_code
def yX10_cover : MethodName := ⟨RX10, "cover", "(IZ)Z"⟩
abbrev cX10_manyIn : ByteArray := prog_10_method_19_code
def yX10_manyIn : MethodName := ⟨RX10, "manyIn", "(I)I"⟩
abbrev cX10_dry : ByteArray := prog_10_method_20_code
def yX10_dry : MethodName := ⟨RX10, "dry", "(II)I"⟩
abbrev cX10_dip : ByteArray := prog_10_method_21_code
def yX10_dip : MethodName := ⟨RX10, "dip", "(II)I"⟩
abbrev cX10_isTaken : ByteArray := prog_10_method_22_code
def yX10_isTaken : MethodName := ⟨RX10, "isTaken", "(II)Z"⟩
abbrev cX10_free : ByteArray := prog_10_method_23_code
def yX10_free : MethodName := ⟨RX10, "free", "(I)I"⟩
abbrev cX10_row : ByteArray := prog_10_method_24_code
def yX10_row : MethodName := ⟨RX10, "row", "(I)I"⟩
abbrev cX10_high : ByteArray := prog_10_method_25_code
def yX10_high : MethodName := ⟨RX10, "high", "(I)I"⟩
abbrev cX10_set : ByteArray := prog_10_method_26_code
def yX10_set : MethodName := ⟨RX10, "set", "(III)I"⟩
abbrev cX10_leave : ByteArray := prog_10_method_27_code
def yX10_leave : MethodName := ⟨RX10, "leave", "(LKilnYardModel$Pot;)V"⟩
abbrev cX10_take : ByteArray := prog_10_method_28_code
def yX10_take : MethodName := ⟨RX10, "take", "(I)I"⟩
abbrev cX10_ramp : ByteArray := prog_10_method_29_code
def yX10_ramp : MethodName := ⟨RX10, "ramp", "(III)I"⟩
abbrev cX10_forget : ByteArray := prog_10_method_30_code
def yX10_forget : MethodName := ⟨RX10, "forget", "()I"⟩
abbrev cX10_placed : ByteArray := prog_10_method_31_code
def yX10_placed : MethodName := ⟨RX10, "placed", "(I)I"⟩
abbrev cX10_light : ByteArray := prog_10_method_32_code
def yX10_light : MethodName := ⟨RX10, "light", "()I"⟩
abbrev cX10_burn : ByteArray := prog_10_method_33_code
def yX10_burn : MethodName := ⟨RX10, "burn", "(I)Z"⟩
abbrev cX10_damper : ByteArray := prog_10_method_34_code
def yX10_damper : MethodName := ⟨RX10, "damper", "(I)I"⟩
abbrev cX10_door : ByteArray := prog_10_method_35_code
def yX10_door : MethodName := ⟨RX10, "door", "(Z)Z"⟩
abbrev cX10_bell : ByteArray := prog_10_method_36_code
def yX10_bell : MethodName := ⟨RX10, "bell", "()I"⟩
abbrev cX10_finish : ByteArray := prog_10_method_37_code
def yX10_finish : MethodName := ⟨RX10, "finish", "(LKilnYardModel$Pot;I)V"⟩
abbrev cX10_unload : ByteArray := prog_10_method_38_code
def yX10_unload : MethodName := ⟨RX10, "unload", "()I"⟩
abbrev cX10_order : ByteArray := prog_10_method_39_code
def yX10_order : MethodName := ⟨RX10, "order", "(IIII)I"⟩
abbrev cX10_colour : ByteArray := prog_10_method_40_code
def yX10_colour : MethodName := ⟨RX10, "colour", "(LKilnYardModel$Pot;)I"⟩
abbrev cX10_meet : ByteArray := prog_10_method_41_code
def yX10_meet : MethodName := ⟨RX10, "meet", "(II)I"⟩
abbrev cX10_toldOfPot : ByteArray := prog_10_method_42_code
def yX10_toldOfPot : MethodName := ⟨RX10, "toldOfPot", "(II)I"⟩
abbrev cX10_ofPot : ByteArray := prog_10_method_43_code
def yX10_ofPot : MethodName := ⟨RX10, "ofPot", "(II)I"⟩
abbrev cX10_water : ByteArray := prog_10_method_44_code
def yX10_water : MethodName := ⟨RX10, "water", "(I)D"⟩
abbrev cX10_toldOfGlaze : ByteArray := prog_10_method_45_code
def yX10_toldOfGlaze : MethodName := ⟨RX10, "toldOfGlaze", "(II)D"⟩
abbrev cX10_ofGlaze : ByteArray := prog_10_method_46_code
def yX10_ofGlaze : MethodName := ⟨RX10, "ofGlaze", "(II)D"⟩
abbrev cX10_kiln : ByteArray := prog_10_method_47_code
def yX10_kiln : MethodName := ⟨RX10, "kiln", "(I)D"⟩
abbrev cX10_toldOfShelf : ByteArray := prog_10_method_48_code
def yX10_toldOfShelf : MethodName := ⟨RX10, "toldOfShelf", "(II)I"⟩
abbrev cX10_ofShelf : ByteArray := prog_10_method_49_code
def yX10_ofShelf : MethodName := ⟨RX10, "ofShelf", "(II)I"⟩
abbrev cX10_count : ByteArray := prog_10_method_50_code
def yX10_count : MethodName := ⟨RX10, "count", "(I)I"⟩
abbrev cX10_many : ByteArray := prog_10_method_51_code
def yX10_many : MethodName := ⟨RX10, "many", "(I)I"⟩
abbrev cX10_coneBy : ByteArray := prog_10_method_52_code
def yX10_coneBy : MethodName := ⟨RX10, "coneBy", "(II)I"⟩
abbrev cX10_wouldCone : ByteArray := prog_10_method_53_code
def yX10_wouldCone : MethodName := ⟨RX10, "wouldCone", "(II)I"⟩
abbrev cX10_ending : ByteArray := prog_10_method_54_code
def yX10_ending : MethodName := ⟨RX10, "ending", "()I"⟩
abbrev cX10_wouldEnd : ByteArray := prog_10_method_55_code
def yX10_wouldEnd : MethodName := ⟨RX10, "wouldEnd", "()I"⟩
abbrev cX10_best : ByteArray := prog_10_method_56_code
def yX10_best : MethodName := ⟨RX10, "best", "(II)I"⟩
abbrev cX10_holding : ByteArray := prog_10_method_57_code
def yX10_holding : MethodName := ⟨RX10, "holding", "(I)I"⟩
abbrev cX10_wouldHold : ByteArray := prog_10_method_58_code
def yX10_wouldHold : MethodName := ⟨RX10, "wouldHold", "(I)I"⟩
abbrev cX10_add : ByteArray := prog_10_method_59_code
def yX10_add : MethodName := ⟨RX10, "add", "(JJ)J"⟩
abbrev cX10_digest : ByteArray := prog_10_method_60_code
def yX10_digest : MethodName := ⟨RX10, "digest", "()J"⟩
def RJx145de : String := "java/io/Serializable"
def TJx145de : u_T := fun k => match k with
  | _ => ("", "", "", false)
def tyJx145de : Nat → FieldType := fun k => match k with
  | _ => .int
theorem nmJx145de : ∀ a, a < 0 → ∀ b, b < 0 → a ≠ b → (TJx145de a).2.1 ≠ (TJx145de b).2.1 := by decide +kernel
theorem tyJx145de_ok : ∀ k, k < 0 → parseFieldDescriptor (TJx145de k).2.2.1 = some (tyJx145de k) := by decide +kernel
def RJx8e188 : String := "java/lang/Cloneable"
def TJx8e188 : u_T := fun k => match k with
  | _ => ("", "", "", false)
def tyJx8e188 : Nat → FieldType := fun k => match k with
  | _ => .int
theorem nmJx8e188 : ∀ a, a < 0 → ∀ b, b < 0 → a ≠ b → (TJx8e188 a).2.1 ≠ (TJx8e188 b).2.1 := by decide +kernel
theorem tyJx8e188_ok : ∀ k, k < 0 → parseFieldDescriptor (TJx8e188 k).2.2.1 = some (tyJx8e188 k) := by decide +kernel
def RJxb160c : String := "java/lang/Comparable"
def TJxb160c : u_T := fun k => match k with
  | _ => ("", "", "", false)
def tyJxb160c : Nat → FieldType := fun k => match k with
  | _ => .int
theorem nmJxb160c : ∀ a, a < 0 → ∀ b, b < 0 → a ≠ b → (TJxb160c a).2.1 ≠ (TJxb160c b).2.1 := by decide +kernel
theorem tyJxb160c_ok : ∀ k, k < 0 → parseFieldDescriptor (TJxb160c k).2.2.1 = some (tyJxb160c k) := by decide +kernel
def RJxe99ae : String := "java/lang/Double"
def TJxe99ae : u_T := fun k => match k with
  | _ => ("", "", "", false)
def tyJxe99ae : Nat → FieldType := fun k => match k with
  | _ => .int
theorem nmJxe99ae : ∀ a, a < 0 → ∀ b, b < 0 → a ≠ b → (TJxe99ae a).2.1 ≠ (TJxe99ae b).2.1 := by decide +kernel
theorem tyJxe99ae_ok : ∀ k, k < 0 → parseFieldDescriptor (TJxe99ae k).2.2.1 = some (tyJxe99ae k) := by decide +kernel
def RJxf58ca : String := "java/lang/Float"
def TJxf58ca : u_T := fun k => match k with
  | _ => ("", "", "", false)
def tyJxf58ca : Nat → FieldType := fun k => match k with
  | _ => .int
theorem nmJxf58ca : ∀ a, a < 0 → ∀ b, b < 0 → a ≠ b → (TJxf58ca a).2.1 ≠ (TJxf58ca b).2.1 := by decide +kernel
theorem tyJxf58ca_ok : ∀ k, k < 0 → parseFieldDescriptor (TJxf58ca k).2.2.1 = some (tyJxf58ca k) := by decide +kernel
def RJ6 : String := "java/lang/Integer"
def TJ6 : u_T := fun k => match k with
  | _ => ("", "", "", false)
def tyJ6 : Nat → FieldType := fun k => match k with
  | _ => .int
theorem nmJ6 : ∀ a, a < 0 → ∀ b, b < 0 → a ≠ b → (TJ6 a).2.1 ≠ (TJ6 b).2.1 := by decide +kernel
theorem tyJ6_ok : ∀ k, k < 0 → parseFieldDescriptor (TJ6 k).2.2.1 = some (tyJ6 k) := by decide +kernel
abbrev cJ6_bitCount_0f7a4 : ByteArray := prog_22_method_49_code
def yJ6_bitCount_0f7a4 : MethodName := ⟨RJ6, "bitCount", "(I)I"⟩
def RJxab1ab : String := "java/lang/Iterable"
def TJxab1ab : u_T := fun k => match k with
  | _ => ("", "", "", false)
def tyJxab1ab : Nat → FieldType := fun k => match k with
  | _ => .int
theorem nmJxab1ab : ∀ a, a < 0 → ∀ b, b < 0 → a ≠ b → (TJxab1ab a).2.1 ≠ (TJxab1ab b).2.1 := by decide +kernel
theorem tyJxab1ab_ok : ∀ k, k < 0 → parseFieldDescriptor (TJxab1ab k).2.2.1 = some (tyJxab1ab k) := by decide +kernel
def RJ9 : String := "java/lang/Math"
def TJ9 : u_T := fun k => match k with
  | _ => ("", "", "", false)
def tyJ9 : Nat → FieldType := fun k => match k with
  | _ => .int
theorem nmJ9 : ∀ a, a < 0 → ∀ b, b < 0 → a ≠ b → (TJ9 a).2.1 ≠ (TJ9 b).2.1 := by decide +kernel
theorem tyJ9_ok : ∀ k, k < 0 → parseFieldDescriptor (TJ9 k).2.2.1 = some (tyJ9 k) := by decide +kernel
abbrev cJ9_rint_294c1 : ByteArray := prog_24_method_18_code
def yJ9_rint_294c1 : MethodName := ⟨RJ9, "rint", "(D)D"⟩
abbrev cJ9_abs_294c1 : ByteArray := prog_24_method_64_code
def yJ9_abs_294c1 : MethodName := ⟨RJ9, "abs", "(D)D"⟩
abbrev cJ9_max_7cf53 : ByteArray := prog_24_method_65_code
def yJ9_max_7cf53 : MethodName := ⟨RJ9, "max", "(II)I"⟩
abbrev cJ9_max_eb370 : ByteArray := prog_24_method_68_code
def yJ9_max_eb370 : MethodName := ⟨RJ9, "max", "(DD)D"⟩
abbrev cJ9_min_7cf53 : ByteArray := prog_24_method_69_code
def yJ9_min_7cf53 : MethodName := ⟨RJ9, "min", "(II)I"⟩
abbrev cJ9_min_e70c8 : ByteArray := prog_24_method_71_code
def yJ9_min_e70c8 : MethodName := ⟨RJ9, "min", "(FF)F"⟩
abbrev cJ9_min_eb370 : ByteArray := prog_24_method_72_code
def yJ9_min_eb370 : MethodName := ⟨RJ9, "min", "(DD)D"⟩
abbrev cJ9_copySign_eb370 : ByteArray := prog_24_method_89_code
def yJ9_copySign_eb370 : MethodName := ⟨RJ9, "copySign", "(DD)D"⟩
def RJxd2413 : String := "java/lang/Number"
def TJxd2413 : u_T := fun k => match k with
  | _ => ("", "", "", false)
def tyJxd2413 : Nat → FieldType := fun k => match k with
  | _ => .int
theorem nmJxd2413 : ∀ a, a < 0 → ∀ b, b < 0 → a ≠ b → (TJxd2413 a).2.1 ≠ (TJxd2413 b).2.1 := by decide +kernel
theorem tyJxd2413_ok : ∀ k, k < 0 → parseFieldDescriptor (TJxd2413 k).2.2.1 = some (tyJxd2413 k) := by decide +kernel
def RJxfc994 : String := "java/lang/StrictMath"
def TJxfc994 : u_T := fun k => match k with
  | _ => ("", "", "", false)
def tyJxfc994 : Nat → FieldType := fun k => match k with
  | _ => .int
theorem nmJxfc994 : ∀ a, a < 0 → ∀ b, b < 0 → a ≠ b → (TJxfc994 a).2.1 ≠ (TJxfc994 b).2.1 := by decide +kernel
theorem tyJxfc994_ok : ∀ k, k < 0 → parseFieldDescriptor (TJxfc994 k).2.2.1 = some (tyJxfc994 k) := by decide +kernel
abbrev cJxfc994_rint_294c1 : ByteArray := prog_27_method_19_code
def yJxfc994_rint_294c1 : MethodName := ⟨RJxfc994, "rint", "(D)D"⟩
def RJ0 : String := "java/lang/String"
def TJ0 : u_T := fun k => match k with
  | _ => ("", "", "", false)
def tyJ0 : Nat → FieldType := fun k => match k with
  | _ => .int
theorem nmJ0 : ∀ a, a < 0 → ∀ b, b < 0 → a ≠ b → (TJ0 a).2.1 ≠ (TJ0 b).2.1 := by decide +kernel
theorem tyJ0_ok : ∀ k, k < 0 → parseFieldDescriptor (TJ0 k).2.2.1 = some (tyJ0 k) := by decide +kernel
def RJ10 : String := "java/lang/System"
def TJ10 : u_T := fun k => match k with
  | _ => ("", "", "", false)
def tyJ10 : Nat → FieldType := fun k => match k with
  | _ => .int
theorem nmJ10 : ∀ a, a < 0 → ∀ b, b < 0 → a ≠ b → (TJ10 a).2.1 ≠ (TJ10 b).2.1 := by decide +kernel
theorem tyJ10_ok : ∀ k, k < 0 → parseFieldDescriptor (TJ10 k).2.2.1 = some (tyJ10 k) := by decide +kernel
def RJxfd54e : String := "java/lang/constant/Constable"
def TJxfd54e : u_T := fun k => match k with
  | _ => ("", "", "", false)
def tyJxfd54e : Nat → FieldType := fun k => match k with
  | _ => .int
theorem nmJxfd54e : ∀ a, a < 0 → ∀ b, b < 0 → a ≠ b → (TJxfd54e a).2.1 ≠ (TJxfd54e b).2.1 := by decide +kernel
theorem tyJxfd54e_ok : ∀ k, k < 0 → parseFieldDescriptor (TJxfd54e k).2.2.1 = some (tyJxfd54e k) := by decide +kernel
def RJx3cf43 : String := "java/lang/constant/ConstantDesc"
def TJx3cf43 : u_T := fun k => match k with
  | _ => ("", "", "", false)
def tyJx3cf43 : Nat → FieldType := fun k => match k with
  | _ => .int
theorem nmJx3cf43 : ∀ a, a < 0 → ∀ b, b < 0 → a ≠ b → (TJx3cf43 a).2.1 ≠ (TJx3cf43 b).2.1 := by decide +kernel
theorem tyJx3cf43_ok : ∀ k, k < 0 → parseFieldDescriptor (TJx3cf43 k).2.2.1 = some (tyJx3cf43 k) := by decide +kernel
def RJxa1e45 : String := "java/util/AbstractCollection"
def TJxa1e45 : u_T := fun k => match k with
  | _ => ("", "", "", false)
def tyJxa1e45 : Nat → FieldType := fun k => match k with
  | _ => .int
theorem nmJxa1e45 : ∀ a, a < 0 → ∀ b, b < 0 → a ≠ b → (TJxa1e45 a).2.1 ≠ (TJxa1e45 b).2.1 := by decide +kernel
theorem tyJxa1e45_ok : ∀ k, k < 0 → parseFieldDescriptor (TJxa1e45 k).2.2.1 = some (tyJxa1e45 k) := by decide +kernel
abbrev cJxa1e45_init_da8c8 : ByteArray := prog_33_method_1_code
def yJxa1e45_init_da8c8 : MethodName := ⟨RJxa1e45, "<init>", "()V"⟩
def RJxc12de : String := "java/util/AbstractList"
def TJxc12de : u_T := fun k => match k with
  | _ => ("", "", "", false)
def tyJxc12de : Nat → FieldType := fun k => match k with
  | _ => .int
theorem nmJxc12de : ∀ a, a < 0 → ∀ b, b < 0 → a ≠ b → (TJxc12de a).2.1 ≠ (TJxc12de b).2.1 := by decide +kernel
theorem tyJxc12de_ok : ∀ k, k < 0 → parseFieldDescriptor (TJxc12de k).2.2.1 = some (tyJxc12de k) := by decide +kernel
abbrev cJxc12de_init_da8c8 : ByteArray := prog_34_method_1_code
def yJxc12de_init_da8c8 : MethodName := ⟨RJxc12de, "<init>", "()V"⟩
def RJx35411 : String := "java/util/ArrayList$Itr"
def TJx35411 : u_T := fun k => match k with
  | 0 => ("java/util/ArrayList$Itr", "cursor", "I", false)
  | 1 => ("java/util/ArrayList$Itr", "lastRet", "I", false)
  | 2 => ("java/util/ArrayList$Itr", "expectedModCount", "I", false)
  | _ => ("java/util/ArrayList$Itr", "this$0", "Ljava/util/ArrayList;", true)
def tyJx35411 : Nat → FieldType := fun k => match k with
  | 0 => .int
  | 1 => .int
  | 2 => .int
  | _ => .object "java/util/ArrayList"
theorem nmJx35411 : ∀ a, a < 4 → ∀ b, b < 4 → a ≠ b → (TJx35411 a).2.1 ≠ (TJx35411 b).2.1 := by decide +kernel
theorem tyJx35411_ok : ∀ k, k < 4 → parseFieldDescriptor (TJx35411 k).2.2.1 = some (tyJx35411 k) := by decide +kernel
abbrev cJx35411_init_45d68 : ByteArray := prog_36_method_1_code
def yJx35411_init_45d68 : MethodName := ⟨RJx35411, "<init>", "(Ljava/util/ArrayList;)V"⟩
abbrev cJx35411_hasNext_aae02 : ByteArray := prog_36_method_2_code
def yJx35411_hasNext_aae02 : MethodName := ⟨RJx35411, "hasNext", "()Z"⟩
abbrev cJx35411_next_0502b : ByteArray := prog_36_method_3_code
def yJx35411_next_0502b : MethodName := ⟨RJx35411, "next", "()Ljava/lang/Object;"⟩
abbrev cJx35411_checkForComodification_da8c8 : ByteArray := prog_36_method_6_code
def yJx35411_checkForComodification_da8c8 : MethodName := ⟨RJx35411, "checkForComodification", "()V"⟩
def RJx4a65c : String := "java/util/ArrayList"
def TJx4a65c : u_T := fun k => match k with
  | 0 => ("java/util/AbstractList", "modCount", "I", false)
  | 1 => ("java/util/ArrayList", "elementData", "[Ljava/lang/Object;", false)
  | _ => ("java/util/ArrayList", "size", "I", false)
def tyJx4a65c : Nat → FieldType := fun k => match k with
  | 0 => .int
  | 1 => .array (.object "java/lang/Object")
  | _ => .int
theorem nmJx4a65c : ∀ a, a < 3 → ∀ b, b < 3 → a ≠ b → (TJx4a65c a).2.1 ≠ (TJx4a65c b).2.1 := by decide +kernel
theorem tyJx4a65c_ok : ∀ k, k < 3 → parseFieldDescriptor (TJx4a65c k).2.2.1 = some (tyJx4a65c k) := by decide +kernel
abbrev cJx4a65c_init_da8c8 : ByteArray := prog_35_method_2_code
def yJx4a65c_init_da8c8 : MethodName := ⟨RJx4a65c, "<init>", "()V"⟩
abbrev cJx4a65c_grow_92f84 : ByteArray := prog_35_method_6_code
def yJx4a65c_grow_92f84 : MethodName := ⟨RJx4a65c, "grow", "(I)[Ljava/lang/Object;"⟩
abbrev cJx4a65c_grow_d5877 : ByteArray := prog_35_method_7_code
def yJx4a65c_grow_d5877 : MethodName := ⟨RJx4a65c, "grow", "()[Ljava/lang/Object;"⟩
abbrev cJx4a65c_size_8abf5 : ByteArray := prog_35_method_8_code
def yJx4a65c_size_8abf5 : MethodName := ⟨RJx4a65c, "size", "()I"⟩
abbrev cJx4a65c_isEmpty_aae02 : ByteArray := prog_35_method_9_code
def yJx4a65c_isEmpty_aae02 : MethodName := ⟨RJx4a65c, "isEmpty", "()Z"⟩
abbrev cJx4a65c_toArray_d5877 : ByteArray := prog_35_method_16_code
def yJx4a65c_toArray_d5877 : MethodName := ⟨RJx4a65c, "toArray", "()[Ljava/lang/Object;"⟩
abbrev cJx4a65c_elementData_915e3 : ByteArray := prog_35_method_18_code
def yJx4a65c_elementData_915e3 : MethodName := ⟨RJx4a65c, "elementData", "(I)Ljava/lang/Object;"⟩
abbrev cJx4a65c_get_915e3 : ByteArray := prog_35_method_20_code
def yJx4a65c_get_915e3 : MethodName := ⟨RJx4a65c, "get", "(I)Ljava/lang/Object;"⟩
abbrev cJx4a65c_add_72be8 : ByteArray := prog_35_method_24_code
def yJx4a65c_add_72be8 : MethodName := ⟨RJx4a65c, "add", "(Ljava/lang/Object;[Ljava/lang/Object;I)V"⟩
abbrev cJx4a65c_add_9ea2d : ByteArray := prog_35_method_25_code
def yJx4a65c_add_9ea2d : MethodName := ⟨RJx4a65c, "add", "(Ljava/lang/Object;)Z"⟩
abbrev cJx4a65c_clear_da8c8 : ByteArray := prog_35_method_40_code
def yJx4a65c_clear_da8c8 : MethodName := ⟨RJx4a65c, "clear", "()V"⟩
abbrev cJx4a65c_addAll_f0b43 : ByteArray := prog_35_method_41_code
def yJx4a65c_addAll_f0b43 : MethodName := ⟨RJx4a65c, "addAll", "(Ljava/util/Collection;)Z"⟩
abbrev cJx4a65c_iterator_32c93 : ByteArray := prog_35_method_55_code
def yJx4a65c_iterator_32c93 : MethodName := ⟨RJx4a65c, "iterator", "()Ljava/util/Iterator;"⟩
def RJ7 : String := "java/util/Arrays"
def TJ7 : u_T := fun k => match k with
  | _ => ("", "", "", false)
def tyJ7 : Nat → FieldType := fun k => match k with
  | _ => .int
theorem nmJ7 : ∀ a, a < 0 → ∀ b, b < 0 → a ≠ b → (TJ7 a).2.1 ≠ (TJ7 b).2.1 := by decide +kernel
theorem tyJ7_ok : ∀ k, k < 0 → parseFieldDescriptor (TJ7 k).2.2.1 = some (tyJ7 k) := by decide +kernel
abbrev cJ7_copyOf_1904c : ByteArray := prog_37_method_119_code
def yJ7_copyOf_1904c : MethodName := ⟨RJ7, "copyOf", "([Ljava/lang/Object;I)[Ljava/lang/Object;"⟩
abbrev cJ7_copyOf_6403c : ByteArray := prog_37_method_120_code
def yJ7_copyOf_6403c : MethodName := ⟨RJ7, "copyOf", "([Ljava/lang/Object;ILjava/lang/Class;)[Ljava/lang/Object;"⟩
def RJx5ef63 : String := "java/util/Collection"
def TJx5ef63 : u_T := fun k => match k with
  | _ => ("", "", "", false)
def tyJx5ef63 : Nat → FieldType := fun k => match k with
  | _ => .int
theorem nmJx5ef63 : ∀ a, a < 0 → ∀ b, b < 0 → a ≠ b → (TJx5ef63 a).2.1 ≠ (TJx5ef63 b).2.1 := by decide +kernel
theorem tyJx5ef63_ok : ∀ k, k < 0 → parseFieldDescriptor (TJx5ef63 k).2.2.1 = some (tyJx5ef63 k) := by decide +kernel
def RJx4d0d8 : String := "java/util/Iterator"
def TJx4d0d8 : u_T := fun k => match k with
  | _ => ("", "", "", false)
def tyJx4d0d8 : Nat → FieldType := fun k => match k with
  | _ => .int
theorem nmJx4d0d8 : ∀ a, a < 0 → ∀ b, b < 0 → a ≠ b → (TJx4d0d8 a).2.1 ≠ (TJx4d0d8 b).2.1 := by decide +kernel
theorem tyJx4d0d8_ok : ∀ k, k < 0 → parseFieldDescriptor (TJx4d0d8 k).2.2.1 = some (tyJx4d0d8 k) := by decide +kernel
def RJxbd725 : String := "java/util/List"
def TJxbd725 : u_T := fun k => match k with
  | _ => ("", "", "", false)
def tyJxbd725 : Nat → FieldType := fun k => match k with
  | _ => .int
theorem nmJxbd725 : ∀ a, a < 0 → ∀ b, b < 0 → a ≠ b → (TJxbd725 a).2.1 ≠ (TJxbd725 b).2.1 := by decide +kernel
theorem tyJxbd725_ok : ∀ k, k < 0 → parseFieldDescriptor (TJxbd725 k).2.2.1 = some (tyJxbd725 k) := by decide +kernel
def RJ15 : String := "java/util/Objects"
def TJ15 : u_T := fun k => match k with
  | _ => ("", "", "", false)
def tyJ15 : Nat → FieldType := fun k => match k with
  | _ => .int
theorem nmJ15 : ∀ a, a < 0 → ∀ b, b < 0 → a ≠ b → (TJ15 a).2.1 ≠ (TJ15 b).2.1 := by decide +kernel
theorem tyJ15_ok : ∀ k, k < 0 → parseFieldDescriptor (TJ15 k).2.2.1 = some (tyJ15 k) := by decide +kernel
abbrev cJ15_checkIndex_7cf53 : ByteArray := prog_41_method_17_code
def yJ15_checkIndex_7cf53 : MethodName := ⟨RJ15, "checkIndex", "(II)I"⟩
def RJxf0a74 : String := "java/util/RandomAccess"
def TJxf0a74 : u_T := fun k => match k with
  | _ => ("", "", "", false)
def tyJxf0a74 : Nat → FieldType := fun k => match k with
  | _ => .int
theorem nmJxf0a74 : ∀ a, a < 0 → ∀ b, b < 0 → a ≠ b → (TJxf0a74 a).2.1 ≠ (TJxf0a74 b).2.1 := by decide +kernel
theorem tyJxf0a74_ok : ∀ k, k < 0 → parseFieldDescriptor (TJxf0a74 k).2.2.1 = some (tyJxf0a74 k) := by decide +kernel
def RJxa66e6 : String := "java/util/SequencedCollection"
def TJxa66e6 : u_T := fun k => match k with
  | _ => ("", "", "", false)
def tyJxa66e6 : Nat → FieldType := fun k => match k with
  | _ => .int
theorem nmJxa66e6 : ∀ a, a < 0 → ∀ b, b < 0 → a ≠ b → (TJxa66e6 a).2.1 ≠ (TJxa66e6 b).2.1 := by decide +kernel
theorem tyJxa66e6_ok : ∀ k, k < 0 → parseFieldDescriptor (TJxa66e6 k).2.2.1 = some (tyJxa66e6 k) := by decide +kernel
def RJ8 : String := "jdk/internal/util/ArraysSupport"
def TJ8 : u_T := fun k => match k with
  | _ => ("", "", "", false)
def tyJ8 : Nat → FieldType := fun k => match k with
  | _ => .int
theorem nmJ8 : ∀ a, a < 0 → ∀ b, b < 0 → a ≠ b → (TJ8 a).2.1 ≠ (TJ8 b).2.1 := by decide +kernel
theorem tyJ8_ok : ∀ k, k < 0 → parseFieldDescriptor (TJ8 k).2.2.1 = some (tyJ8 k) := by decide +kernel
abbrev cJ8_newLength_cabcc : ByteArray := prog_44_method_27_code
def yJ8_newLength_cabcc : MethodName := ⟨RJ8, "newLength", "(III)I"⟩
abbrev cJ8_hugeLength_7cf53 : ByteArray := prog_44_method_28_code
def yJ8_hugeLength_7cf53 : MethodName := ⟨RJ8, "hugeLength", "(II)I"⟩
def RJ3 : String := "jdk/internal/util/Preconditions"
def TJ3 : u_T := fun k => match k with
  | _ => ("", "", "", false)
def tyJ3 : Nat → FieldType := fun k => match k with
  | _ => .int
theorem nmJ3 : ∀ a, a < 0 → ∀ b, b < 0 → a ≠ b → (TJ3 a).2.1 ≠ (TJ3 b).2.1 := by decide +kernel
theorem tyJ3_ok : ∀ k, k < 0 → parseFieldDescriptor (TJ3 k).2.2.1 = some (tyJ3 k) := by decide +kernel
abbrev cJ3_checkIndex_8e157 : ByteArray := prog_45_method_11_code
def yJ3_checkIndex_8e157 : MethodName := ⟨RJ3, "checkIndex", "(IILjava/util/function/BiFunction;)I"⟩
def RL : String := "KilnYardLaw"
abbrev cL_clay : ByteArray := method_3_code
def yL_clay : MethodName := ⟨RL, "clay", "(LKilnYard;II[J)I"⟩
abbrev cL_glaze : ByteArray := method_4_code
def yL_glaze : MethodName := ⟨RL, "glaze", "(LKilnYard;IIIII[J)I"⟩
abbrev cL_pot : ByteArray := method_5_code
def yL_pot : MethodName := ⟨RL, "pot", "(LKilnYard;IIII[J)I"⟩
abbrev cL_cover : ByteArray := method_6_code
def yL_cover : MethodName := ⟨RL, "cover", "(LKilnYard;IZ[J)I"⟩
abbrev cL_dry : ByteArray := method_7_code
def yL_dry : MethodName := ⟨RL, "dry", "(LKilnYard;II[J)I"⟩
abbrev cL_dip : ByteArray := method_8_code
def yL_dip : MethodName := ⟨RL, "dip", "(LKilnYard;II[J)I"⟩
abbrev cL_set : ByteArray := method_9_code
def yL_set : MethodName := ⟨RL, "set", "(LKilnYard;III[J)I"⟩
abbrev cL_take : ByteArray := method_10_code
def yL_take : MethodName := ⟨RL, "take", "(LKilnYard;I[J)I"⟩
abbrev cL_ramp : ByteArray := method_11_code
def yL_ramp : MethodName := ⟨RL, "ramp", "(LKilnYard;III[J)I"⟩
abbrev cL_forget : ByteArray := method_12_code
def yL_forget : MethodName := ⟨RL, "forget", "(LKilnYard;[J)I"⟩
abbrev cL_light : ByteArray := method_13_code
def yL_light : MethodName := ⟨RL, "light", "(LKilnYard;[J)I"⟩
abbrev cL_burn : ByteArray := method_14_code
def yL_burn : MethodName := ⟨RL, "burn", "(LKilnYard;I[J)I"⟩
abbrev cL_damper : ByteArray := method_15_code
def yL_damper : MethodName := ⟨RL, "damper", "(LKilnYard;I[J)I"⟩
abbrev cL_unload : ByteArray := method_16_code
def yL_unload : MethodName := ⟨RL, "unload", "(LKilnYard;[J)I"⟩
abbrev cL_order : ByteArray := method_17_code
def yL_order : MethodName := ⟨RL, "order", "(LKilnYard;IIII[J)I"⟩
abbrev cL_meet : ByteArray := method_18_code
def yL_meet : MethodName := ⟨RL, "meet", "(LKilnYard;II[J)I"⟩
abbrev cL_ofPot : ByteArray := method_19_code
def yL_ofPot : MethodName := ⟨RL, "ofPot", "(LKilnYard;II[J)I"⟩
abbrev cL_water : ByteArray := method_20_code
def yL_water : MethodName := ⟨RL, "water", "(LKilnYard;I[D)I"⟩
abbrev cL_ofGlaze : ByteArray := method_21_code
def yL_ofGlaze : MethodName := ⟨RL, "ofGlaze", "(LKilnYard;II[D)I"⟩
abbrev cL_kiln : ByteArray := method_22_code
def yL_kiln : MethodName := ⟨RL, "kiln", "(LKilnYard;I[D)I"⟩
abbrev cL_ofShelf : ByteArray := method_23_code
def yL_ofShelf : MethodName := ⟨RL, "ofShelf", "(LKilnYard;II[J)I"⟩
abbrev cL_many : ByteArray := method_24_code
def yL_many : MethodName := ⟨RL, "many", "(LKilnYard;I[J)I"⟩
abbrev cL_wouldCone : ByteArray := method_25_code
def yL_wouldCone : MethodName := ⟨RL, "wouldCone", "(LKilnYard;II[J)I"⟩
abbrev cL_best : ByteArray := method_26_code
def yL_best : MethodName := ⟨RL, "best", "(LKilnYard;II[J)I"⟩
abbrev cL_wouldHold : ByteArray := method_27_code
def yL_wouldHold : MethodName := ⟨RL, "wouldHold", "(LKilnYard;I[J)I"⟩
abbrev cL_law : ByteArray := code
def yL_law : MethodName := ⟨RL, "law", "([I)Z"⟩
abbrev vwCl : List vw_C := [(RJx35411, TJx35411, 4), (RJx4a65c, TJx4a65c, 3), (RX0, TX0, 2), (RX1, TX1, 6), (RX2, TX2, 13), (RX3, TX3, 5), (RX4, TX4, 12), (RX5, TX5, 2), (RX6, TX6, 3), (RX7, TX7, 14), (RX8, TX8, 11), (RX9, TX9, 12), (RX10, TX10, 10)]
end
section
theorem dX0_init_0 : decode cX0_init 0 = .ok (.aload_n 0, 1) := by decide +kernel
theorem dX0_init_1 : decode cX0_init 1 = .ok (.invokespecial 1, 3) := by decide +kernel
theorem dX0_init_4 : decode cX0_init 4 = .ok (.aload_n 0, 1) := by decide +kernel
theorem dX0_init_5 : decode cX0_init 5 = .ok (.iload_n 1, 1) := by decide +kernel
theorem dX0_init_6 : decode cX0_init 6 = .ok (.putfield 7, 3) := by decide +kernel
theorem dX0_init_9 : decode cX0_init 9 = .ok (.aload_n 0, 1) := by decide +kernel
theorem dX0_init_10 : decode cX0_init 10 = .ok (.iload_n 2, 1) := by decide +kernel
theorem dX0_init_11 : decode cX0_init 11 = .ok (.i2d, 1) := by decide +kernel
theorem dX0_init_12 : decode cX0_init 12 = .ok (.ldc2_w 13, 3) := by decide +kernel
theorem dX0_init_15 : decode cX0_init 15 = .ok (.ddiv, 1) := by decide +kernel
theorem dX0_init_16 : decode cX0_init 16 = .ok (.putfield 15, 3) := by decide +kernel
theorem dX0_init_19 : decode cX0_init 19 = .ok (.return_, 1) := by decide +kernel
theorem dX1_init_0 : decode cX1_init 0 = .ok (.aload_n 0, 1) := by decide +kernel
theorem dX1_init_1 : decode cX1_init 1 = .ok (.invokespecial 3, 3) := by decide +kernel
theorem dX1_init_4 : decode cX1_init 4 = .ok (.aload_n 0, 1) := by decide +kernel
theorem dX1_init_5 : decode cX1_init 5 = .ok (.iload_n 1, 1) := by decide +kernel
theorem dX1_init_6 : decode cX1_init 6 = .ok (.putfield 9, 3) := by decide +kernel
theorem dX1_init_9 : decode cX1_init 9 = .ok (.aload_n 0, 1) := by decide +kernel
theorem dX1_init_10 : decode cX1_init 10 = .ok (.iload 4, 2) := by decide +kernel
theorem dX1_init_12 : decode cX1_init 12 = .ok (.putfield 15, 3) := by decide +kernel
theorem dX1_init_15 : decode cX1_init 15 = .ok (.aload_n 0, 1) := by decide +kernel
theorem dX1_init_16 : decode cX1_init 16 = .ok (.iload 5, 2) := by decide +kernel
theorem dX1_init_18 : decode cX1_init 18 = .ok (.putfield 18, 3) := by decide +kernel
theorem dX1_init_21 : decode cX1_init 21 = .ok (.aload_n 0, 1) := by decide +kernel
theorem dX1_init_22 : decode cX1_init 22 = .ok (.iload 6, 2) := by decide +kernel
theorem dX1_init_24 : decode cX1_init 24 = .ok (.putfield 21, 3) := by decide +kernel
theorem dX1_init_27 : decode cX1_init 27 = .ok (.iload_n 2, 1) := by decide +kernel
theorem dX1_init_28 : decode cX1_init 28 = .ok (.iload_n 3, 1) := by decide +kernel
theorem dX1_init_29 : decode cX1_init 29 = .ok (.iadd, 1) := by decide +kernel
theorem dX1_init_30 : decode cX1_init 30 = .ok (.i2d, 1) := by decide +kernel
theorem dX1_init_31 : decode cX1_init 31 = .ok (.dstore 7, 2) := by decide +kernel
theorem dX1_init_33 : decode cX1_init 33 = .ok (.aload_n 0, 1) := by decide +kernel
theorem dX1_init_34 : decode cX1_init 34 = .ok (.bipush 12, 2) := by decide +kernel
theorem dX1_init_36 : decode cX1_init 36 = .ok (.ldc2_w 24, 3) := by decide +kernel
theorem dX1_init_39 : decode cX1_init 39 = .ok (.iload 4, 2) := by decide +kernel
theorem dX1_init_41 : decode cX1_init 41 = .ok (.i2d, 1) := by decide +kernel
theorem dX1_init_42 : decode cX1_init 42 = .ok (.dload 7, 2) := by decide +kernel
theorem dX1_init_44 : decode cX1_init 44 = .ok (.ddiv, 1) := by decide +kernel
theorem dX1_init_45 : decode cX1_init 45 = .ok (.dmul, 1) := by decide +kernel
theorem dX1_init_46 : decode cX1_init 46 = .ok (.ldc2_w 26, 3) := by decide +kernel
theorem dX1_init_49 : decode cX1_init 49 = .ok (.iload 5, 2) := by decide +kernel
theorem dX1_init_51 : decode cX1_init 51 = .ok (.i2d, 1) := by decide +kernel
theorem dX1_init_52 : decode cX1_init 52 = .ok (.dload 7, 2) := by decide +kernel
theorem dX1_init_54 : decode cX1_init 54 = .ok (.ddiv, 1) := by decide +kernel
theorem dX1_init_55 : decode cX1_init 55 = .ok (.dmul, 1) := by decide +kernel
theorem dX1_init_56 : decode cX1_init 56 = .ok (.dadd, 1) := by decide +kernel
theorem dX1_init_57 : decode cX1_init 57 = .ok (.invokestatic 28, 3) := by decide +kernel
theorem dX1_init_60 : decode cX1_init 60 = .ok (.invokestatic 32, 3) := by decide +kernel
theorem dX1_init_63 : decode cX1_init 63 = .ok (.putfield 38, 3) := by decide +kernel
theorem dX1_init_66 : decode cX1_init 66 = .ok (.iload_n 2, 1) := by decide +kernel
theorem dX1_init_67 : decode cX1_init 67 = .ok (.iload_n 3, 1) := by decide +kernel
theorem dX1_init_68 : decode cX1_init 68 = .ok (.iadd, 1) := by decide +kernel
theorem dX1_init_69 : decode cX1_init 69 = .ok (.iload 4, 2) := by decide +kernel
theorem dX1_init_71 : decode cX1_init 71 = .ok (.iadd, 1) := by decide +kernel
theorem dX1_init_72 : decode cX1_init 72 = .ok (.iload 5, 2) := by decide +kernel
theorem dX1_init_74 : decode cX1_init 74 = .ok (.iadd, 1) := by decide +kernel
theorem dX1_init_75 : decode cX1_init 75 = .ok (.i2d, 1) := by decide +kernel
theorem dX1_init_76 : decode cX1_init 76 = .ok (.dstore 9, 2) := by decide +kernel
theorem dX1_init_78 : decode cX1_init 78 = .ok (.aload_n 0, 1) := by decide +kernel
theorem dX1_init_79 : decode cX1_init 79 = .ok (.ldc2_w 41, 3) := by decide +kernel
theorem dX1_init_82 : decode cX1_init 82 = .ok (.iload_n 2, 1) := by decide +kernel
theorem dX1_init_83 : decode cX1_init 83 = .ok (.i2d, 1) := by decide +kernel
theorem dX1_init_84 : decode cX1_init 84 = .ok (.dmul, 1) := by decide +kernel
theorem dX1_init_85 : decode cX1_init 85 = .ok (.ldc2_w 43, 3) := by decide +kernel
theorem dX1_init_88 : decode cX1_init 88 = .ok (.iload_n 3, 1) := by decide +kernel
theorem dX1_init_89 : decode cX1_init 89 = .ok (.i2d, 1) := by decide +kernel
theorem dX1_init_90 : decode cX1_init 90 = .ok (.dmul, 1) := by decide +kernel
theorem dX1_init_91 : decode cX1_init 91 = .ok (.dadd, 1) := by decide +kernel
theorem dX1_init_92 : decode cX1_init 92 = .ok (.ldc2_w 45, 3) := by decide +kernel
theorem dX1_init_95 : decode cX1_init 95 = .ok (.iload 4, 2) := by decide +kernel
theorem dX1_init_97 : decode cX1_init 97 = .ok (.i2d, 1) := by decide +kernel
theorem dX1_init_98 : decode cX1_init 98 = .ok (.dmul, 1) := by decide +kernel
theorem dX1_init_99 : decode cX1_init 99 = .ok (.dadd, 1) := by decide +kernel
theorem dX1_init_100 : decode cX1_init 100 = .ok (.iload 5, 2) := by decide +kernel
theorem dX1_init_102 : decode cX1_init 102 = .ok (.i2d, 1) := by decide +kernel
theorem dX1_init_103 : decode cX1_init 103 = .ok (.dadd, 1) := by decide +kernel
theorem dX1_init_104 : decode cX1_init 104 = .ok (.dload 9, 2) := by decide +kernel
theorem dX1_init_106 : decode cX1_init 106 = .ok (.ddiv, 1) := by decide +kernel
theorem dX1_init_107 : decode cX1_init 107 = .ok (.putfield 47, 3) := by decide +kernel
theorem dX1_init_110 : decode cX1_init 110 = .ok (.return_, 1) := by decide +kernel
theorem dX1_rounded_0 : decode cX1_rounded 0 = .ok (.dload_n 0, 1) := by decide +kernel
theorem dX1_rounded_1 : decode cX1_rounded 1 = .ok (.d2i, 1) := by decide +kernel
theorem dX1_rounded_2 : decode cX1_rounded 2 = .ok (.istore_n 2, 1) := by decide +kernel
theorem dX1_rounded_3 : decode cX1_rounded 3 = .ok (.dload_n 0, 1) := by decide +kernel
theorem dX1_rounded_4 : decode cX1_rounded 4 = .ok (.iload_n 2, 1) := by decide +kernel
theorem dX1_rounded_5 : decode cX1_rounded 5 = .ok (.i2d, 1) := by decide +kernel
theorem dX1_rounded_6 : decode cX1_rounded 6 = .ok (.dsub, 1) := by decide +kernel
theorem dX1_rounded_7 : decode cX1_rounded 7 = .ok (.dstore_n 3, 1) := by decide +kernel
theorem dX1_rounded_8 : decode cX1_rounded 8 = .ok (.dload_n 3, 1) := by decide +kernel
theorem dX1_rounded_9 : decode cX1_rounded 9 = .ok (.ldc2_w 26, 3) := by decide +kernel
theorem dX1_rounded_12 : decode cX1_rounded 12 = .ok (.dcmp .l, 1) := by decide +kernel
theorem dX1_rounded_13 : decode cX1_rounded 13 = .ok (.ifCond .gt 17, 3) := by decide +kernel
theorem dX1_rounded_16 : decode cX1_rounded 16 = .ok (.dload_n 3, 1) := by decide +kernel
theorem dX1_rounded_17 : decode cX1_rounded 17 = .ok (.ldc2_w 26, 3) := by decide +kernel
theorem dX1_rounded_20 : decode cX1_rounded 20 = .ok (.dcmp .l, 1) := by decide +kernel
theorem dX1_rounded_21 : decode cX1_rounded 21 = .ok (.ifCond .ne 13, 3) := by decide +kernel
theorem dX1_rounded_24 : decode cX1_rounded 24 = .ok (.iload_n 2, 1) := by decide +kernel
theorem dX1_rounded_25 : decode cX1_rounded 25 = .ok (.iconst 2, 1) := by decide +kernel
theorem dX1_rounded_26 : decode cX1_rounded 26 = .ok (.irem, 1) := by decide +kernel
theorem dX1_rounded_27 : decode cX1_rounded 27 = .ok (.ifCond .eq 7, 3) := by decide +kernel
theorem dX1_rounded_30 : decode cX1_rounded 30 = .ok (.iconst 1, 1) := by decide +kernel
theorem dX1_rounded_31 : decode cX1_rounded 31 = .ok (.goto 4, 3) := by decide +kernel
theorem dX1_rounded_34 : decode cX1_rounded 34 = .ok (.iconst 0, 1) := by decide +kernel
theorem dX1_rounded_35 : decode cX1_rounded 35 = .ok (.istore 5, 2) := by decide +kernel
theorem dX1_rounded_37 : decode cX1_rounded 37 = .ok (.iload 5, 2) := by decide +kernel
theorem dX1_rounded_39 : decode cX1_rounded 39 = .ok (.ifCond .eq 9, 3) := by decide +kernel
theorem dX1_rounded_42 : decode cX1_rounded 42 = .ok (.iload_n 2, 1) := by decide +kernel
theorem dX1_rounded_43 : decode cX1_rounded 43 = .ok (.iconst 1, 1) := by decide +kernel
theorem dX1_rounded_44 : decode cX1_rounded 44 = .ok (.iadd, 1) := by decide +kernel
theorem dX1_rounded_45 : decode cX1_rounded 45 = .ok (.goto 4, 3) := by decide +kernel
theorem dX1_rounded_48 : decode cX1_rounded 48 = .ok (.iload_n 2, 1) := by decide +kernel
theorem dX1_rounded_49 : decode cX1_rounded 49 = .ok (.ireturn, 1) := by decide +kernel
theorem dX1_silicaToAlumina_0 : decode cX1_silicaToAlumina 0 = .ok (.aload_n 0, 1) := by decide +kernel
theorem dX1_silicaToAlumina_1 : decode cX1_silicaToAlumina 1 = .ok (.getfield 15, 3) := by decide +kernel
theorem dX1_silicaToAlumina_4 : decode cX1_silicaToAlumina 4 = .ok (.ifCond .ne 9, 3) := by decide +kernel
theorem dX1_silicaToAlumina_7 : decode cX1_silicaToAlumina 7 = .ok (.ldc2_w 51, 3) := by decide +kernel
theorem dX1_silicaToAlumina_10 : decode cX1_silicaToAlumina 10 = .ok (.goto 14, 3) := by decide +kernel
theorem dX1_silicaToAlumina_13 : decode cX1_silicaToAlumina 13 = .ok (.aload_n 0, 1) := by decide +kernel
theorem dX1_silicaToAlumina_14 : decode cX1_silicaToAlumina 14 = .ok (.getfield 18, 3) := by decide +kernel
theorem dX1_silicaToAlumina_17 : decode cX1_silicaToAlumina 17 = .ok (.i2d, 1) := by decide +kernel
theorem dX1_silicaToAlumina_18 : decode cX1_silicaToAlumina 18 = .ok (.aload_n 0, 1) := by decide +kernel
theorem dX1_silicaToAlumina_19 : decode cX1_silicaToAlumina 19 = .ok (.getfield 15, 3) := by decide +kernel
theorem dX1_silicaToAlumina_22 : decode cX1_silicaToAlumina 22 = .ok (.i2d, 1) := by decide +kernel
theorem dX1_silicaToAlumina_23 : decode cX1_silicaToAlumina 23 = .ok (.ddiv, 1) := by decide +kernel
theorem dX1_silicaToAlumina_24 : decode cX1_silicaToAlumina 24 = .ok (.dreturn, 1) := by decide +kernel
theorem dX1_marksOn_0 : decode cX1_marksOn 0 = .ok (.iconst 0, 1) := by decide +kernel
theorem dX1_marksOn_1 : decode cX1_marksOn 1 = .ok (.istore_n 3, 1) := by decide +kernel
theorem dX1_marksOn_2 : decode cX1_marksOn 2 = .ok (.iload_n 3, 1) := by decide +kernel
theorem dX1_marksOn_3 : decode cX1_marksOn 3 = .ok (.iload_n 2, 1) := by decide +kernel
theorem dX1_marksOn_4 : decode cX1_marksOn 4 = .ok (.aload_n 0, 1) := by decide +kernel
theorem dX1_marksOn_5 : decode cX1_marksOn 5 = .ok (.getfield 38, 3) := by decide +kernel
theorem dX1_marksOn_8 : decode cX1_marksOn 8 = .ok (.if_icmp .ge 8, 3) := by decide +kernel
theorem dX1_marksOn_11 : decode cX1_marksOn 11 = .ok (.bipush 8, 2) := by decide +kernel
theorem dX1_marksOn_13 : decode cX1_marksOn 13 = .ok (.goto 4, 3) := by decide +kernel
theorem dX1_marksOn_16 : decode cX1_marksOn 16 = .ok (.iconst 0, 1) := by decide +kernel
theorem dX1_marksOn_17 : decode cX1_marksOn 17 = .ok (.ior, 1) := by decide +kernel
theorem dX1_marksOn_18 : decode cX1_marksOn 18 = .ok (.istore_n 3, 1) := by decide +kernel
theorem dX1_marksOn_19 : decode cX1_marksOn 19 = .ok (.iload_n 3, 1) := by decide +kernel
theorem dX1_marksOn_20 : decode cX1_marksOn 20 = .ok (.iload_n 2, 1) := by decide +kernel
theorem dX1_marksOn_21 : decode cX1_marksOn 21 = .ok (.aload_n 0, 1) := by decide +kernel
theorem dX1_marksOn_22 : decode cX1_marksOn 22 = .ok (.getfield 38, 3) := by decide +kernel
theorem dX1_marksOn_25 : decode cX1_marksOn 25 = .ok (.iconst 2, 1) := by decide +kernel
theorem dX1_marksOn_26 : decode cX1_marksOn 26 = .ok (.iadd, 1) := by decide +kernel
theorem dX1_marksOn_27 : decode cX1_marksOn 27 = .ok (.if_icmp .le 8, 3) := by decide +kernel
theorem dX1_marksOn_30 : decode cX1_marksOn 30 = .ok (.bipush 16, 2) := by decide +kernel
theorem dX1_marksOn_32 : decode cX1_marksOn 32 = .ok (.goto 4, 3) := by decide +kernel
theorem dX1_marksOn_35 : decode cX1_marksOn 35 = .ok (.iconst 0, 1) := by decide +kernel
theorem dX1_marksOn_36 : decode cX1_marksOn 36 = .ok (.ior, 1) := by decide +kernel
theorem dX1_marksOn_37 : decode cX1_marksOn 37 = .ok (.istore_n 3, 1) := by decide +kernel
theorem dX1_marksOn_38 : decode cX1_marksOn 38 = .ok (.iload_n 3, 1) := by decide +kernel
theorem dX1_marksOn_39 : decode cX1_marksOn 39 = .ok (.aload_n 0, 1) := by decide +kernel
theorem dX1_marksOn_40 : decode cX1_marksOn 40 = .ok (.getfield 47, 3) := by decide +kernel
theorem dX1_marksOn_43 : decode cX1_marksOn 43 = .ok (.aload_n 1, 1) := by decide +kernel
theorem dX1_marksOn_44 : decode cX1_marksOn 44 = .ok (.getfield 53, 3) := by decide +kernel
theorem dX1_marksOn_47 : decode cX1_marksOn 47 = .ok (.dsub, 1) := by decide +kernel
theorem dX1_marksOn_48 : decode cX1_marksOn 48 = .ok (.ldc2_w 45, 3) := by decide +kernel
theorem dX1_marksOn_51 : decode cX1_marksOn 51 = .ok (.dcmp .l, 1) := by decide +kernel
theorem dX1_marksOn_52 : decode cX1_marksOn 52 = .ok (.ifCond .le 8, 3) := by decide +kernel
theorem dX1_marksOn_55 : decode cX1_marksOn 55 = .ok (.bipush 32, 2) := by decide +kernel
theorem dX1_marksOn_57 : decode cX1_marksOn 57 = .ok (.goto 4, 3) := by decide +kernel
theorem dX1_marksOn_60 : decode cX1_marksOn 60 = .ok (.iconst 0, 1) := by decide +kernel
theorem dX1_marksOn_61 : decode cX1_marksOn 61 = .ok (.ior, 1) := by decide +kernel
theorem dX1_marksOn_62 : decode cX1_marksOn 62 = .ok (.istore_n 3, 1) := by decide +kernel
theorem dX1_marksOn_63 : decode cX1_marksOn 63 = .ok (.iload_n 3, 1) := by decide +kernel
theorem dX1_marksOn_64 : decode cX1_marksOn 64 = .ok (.aload_n 1, 1) := by decide +kernel
theorem dX1_marksOn_65 : decode cX1_marksOn 65 = .ok (.getfield 53, 3) := by decide +kernel
theorem dX1_marksOn_68 : decode cX1_marksOn 68 = .ok (.aload_n 0, 1) := by decide +kernel
theorem dX1_marksOn_69 : decode cX1_marksOn 69 = .ok (.getfield 47, 3) := by decide +kernel
theorem dX1_marksOn_72 : decode cX1_marksOn 72 = .ok (.dsub, 1) := by decide +kernel
theorem dX1_marksOn_73 : decode cX1_marksOn 73 = .ok (.ldc2_w 45, 3) := by decide +kernel
theorem dX1_marksOn_76 : decode cX1_marksOn 76 = .ok (.dcmp .l, 1) := by decide +kernel
theorem dX1_marksOn_77 : decode cX1_marksOn 77 = .ok (.ifCond .le 8, 3) := by decide +kernel
theorem dX1_marksOn_80 : decode cX1_marksOn 80 = .ok (.bipush 64, 2) := by decide +kernel
theorem dX1_marksOn_82 : decode cX1_marksOn 82 = .ok (.goto 4, 3) := by decide +kernel
theorem dX1_marksOn_85 : decode cX1_marksOn 85 = .ok (.iconst 0, 1) := by decide +kernel
theorem dX1_marksOn_86 : decode cX1_marksOn 86 = .ok (.ior, 1) := by decide +kernel
theorem dX1_marksOn_87 : decode cX1_marksOn 87 = .ok (.istore_n 3, 1) := by decide +kernel
theorem dX1_marksOn_88 : decode cX1_marksOn 88 = .ok (.iload_n 3, 1) := by decide +kernel
theorem dX1_marksOn_89 : decode cX1_marksOn 89 = .ok (.ireturn, 1) := by decide +kernel
theorem dX1_distanceTo_0 : decode cX1_distanceTo 0 = .ok (.aload_n 0, 1) := by decide +kernel
theorem dX1_distanceTo_1 : decode cX1_distanceTo 1 = .ok (.getfield 47, 3) := by decide +kernel
theorem dX1_distanceTo_4 : decode cX1_distanceTo 4 = .ok (.aload_n 1, 1) := by decide +kernel
theorem dX1_distanceTo_5 : decode cX1_distanceTo 5 = .ok (.getfield 53, 3) := by decide +kernel
theorem dX1_distanceTo_8 : decode cX1_distanceTo 8 = .ok (.dsub, 1) := by decide +kernel
theorem dX1_distanceTo_9 : decode cX1_distanceTo 9 = .ok (.dstore_n 2, 1) := by decide +kernel
theorem dX1_distanceTo_10 : decode cX1_distanceTo 10 = .ok (.dload_n 2, 1) := by decide +kernel
theorem dX1_distanceTo_11 : decode cX1_distanceTo 11 = .ok (.dconst 0, 1) := by decide +kernel
theorem dX1_distanceTo_12 : decode cX1_distanceTo 12 = .ok (.dcmp .g, 1) := by decide +kernel
theorem dX1_distanceTo_13 : decode cX1_distanceTo 13 = .ok (.ifCond .ge 8, 3) := by decide +kernel
theorem dX1_distanceTo_16 : decode cX1_distanceTo 16 = .ok (.dload_n 2, 1) := by decide +kernel
theorem dX1_distanceTo_17 : decode cX1_distanceTo 17 = .ok (.dneg, 1) := by decide +kernel
theorem dX1_distanceTo_18 : decode cX1_distanceTo 18 = .ok (.goto 4, 3) := by decide +kernel
theorem dX1_distanceTo_21 : decode cX1_distanceTo 21 = .ok (.dload_n 2, 1) := by decide +kernel
theorem dX1_distanceTo_22 : decode cX1_distanceTo 22 = .ok (.dreturn, 1) := by decide +kernel
theorem dX2_init_0 : decode cX2_init 0 = .ok (.aload_n 0, 1) := by decide +kernel
theorem dX2_init_1 : decode cX2_init 1 = .ok (.invokespecial 3, 3) := by decide +kernel
theorem dX2_init_4 : decode cX2_init 4 = .ok (.aload_n 0, 1) := by decide +kernel
theorem dX2_init_5 : decode cX2_init 5 = .ok (.ldc2_w 9, 3) := by decide +kernel
theorem dX2_init_8 : decode cX2_init 8 = .ok (.putfield 11, 3) := by decide +kernel
theorem dX2_init_11 : decode cX2_init 11 = .ok (.aload_n 0, 1) := by decide +kernel
theorem dX2_init_12 : decode cX2_init 12 = .ok (.ldc2_w 9, 3) := by decide +kernel
theorem dX2_init_15 : decode cX2_init 15 = .ok (.putfield 17, 3) := by decide +kernel
theorem dX2_init_18 : decode cX2_init 18 = .ok (.aload_n 0, 1) := by decide +kernel
theorem dX2_init_19 : decode cX2_init 19 = .ok (.fconst 1, 1) := by decide +kernel
theorem dX2_init_20 : decode cX2_init 20 = .ok (.putfield 20, 3) := by decide +kernel
theorem dX2_init_23 : decode cX2_init 23 = .ok (.aload_n 0, 1) := by decide +kernel
theorem dX2_init_24 : decode cX2_init 24 = .ok (.iconst 0, 1) := by decide +kernel
theorem dX2_init_25 : decode cX2_init 25 = .ok (.putfield 24, 3) := by decide +kernel
theorem dX2_init_28 : decode cX2_init 28 = .ok (.aload_n 0, 1) := by decide +kernel
theorem dX2_init_29 : decode cX2_init 29 = .ok (.iconst 0, 1) := by decide +kernel
theorem dX2_init_30 : decode cX2_init 30 = .ok (.putfield 28, 3) := by decide +kernel
theorem dX2_init_33 : decode cX2_init 33 = .ok (.aload_n 0, 1) := by decide +kernel
theorem dX2_init_34 : decode cX2_init 34 = .ok (.iconst 0, 1) := by decide +kernel
theorem dX2_init_35 : decode cX2_init 35 = .ok (.putfield 32, 3) := by decide +kernel
theorem dX2_init_38 : decode cX2_init 38 = .ok (.aload_n 0, 1) := by decide +kernel
theorem dX2_init_39 : decode cX2_init 39 = .ok (.iconst 0, 1) := by decide +kernel
theorem dX2_init_40 : decode cX2_init 40 = .ok (.putfield 35, 3) := by decide +kernel
theorem dX2_init_43 : decode cX2_init 43 = .ok (.aload_n 0, 1) := by decide +kernel
theorem dX2_init_44 : decode cX2_init 44 = .ok (.iconst 0, 1) := by decide +kernel
theorem dX2_init_45 : decode cX2_init 45 = .ok (.putfield 38, 3) := by decide +kernel
theorem dX2_init_48 : decode cX2_init 48 = .ok (.aload_n 0, 1) := by decide +kernel
theorem dX2_init_49 : decode cX2_init 49 = .ok (.iconst 0, 1) := by decide +kernel
theorem dX2_init_50 : decode cX2_init 50 = .ok (.putfield 41, 3) := by decide +kernel
theorem dX2_init_53 : decode cX2_init 53 = .ok (.aload_n 0, 1) := by decide +kernel
theorem dX2_init_54 : decode cX2_init 54 = .ok (.iconst 0, 1) := by decide +kernel
theorem dX2_init_55 : decode cX2_init 55 = .ok (.putfield 44, 3) := by decide +kernel
theorem dX2_init_58 : decode cX2_init 58 = .ok (.aload_n 0, 1) := by decide +kernel
theorem dX2_init_59 : decode cX2_init 59 = .ok (.iconst 0, 1) := by decide +kernel
theorem dX2_init_60 : decode cX2_init 60 = .ok (.putfield 47, 3) := by decide +kernel
theorem dX2_init_63 : decode cX2_init 63 = .ok (.aload_n 0, 1) := by decide +kernel
theorem dX2_init_64 : decode cX2_init 64 = .ok (.iconst 3, 1) := by decide +kernel
theorem dX2_init_65 : decode cX2_init 65 = .ok (.newarray .double, 2) := by decide +kernel
theorem dX2_init_67 : decode cX2_init 67 = .ok (.putfield 50, 3) := by decide +kernel
theorem dX2_init_70 : decode cX2_init 70 = .ok (.aload_n 0, 1) := by decide +kernel
theorem dX2_init_71 : decode cX2_init 71 = .ok (.aload_n 1, 1) := by decide +kernel
theorem dX2_init_72 : decode cX2_init 72 = .ok (.putfield 54, 3) := by decide +kernel
theorem dX2_init_75 : decode cX2_init 75 = .ok (.return_, 1) := by decide +kernel
theorem dX2_becomeLike_0 : decode cX2_becomeLike 0 = .ok (.aload_n 0, 1) := by decide +kernel
theorem dX2_becomeLike_1 : decode cX2_becomeLike 1 = .ok (.aload_n 1, 1) := by decide +kernel
theorem dX2_becomeLike_2 : decode cX2_becomeLike 2 = .ok (.getfield 11, 3) := by decide +kernel
theorem dX2_becomeLike_5 : decode cX2_becomeLike 5 = .ok (.putfield 11, 3) := by decide +kernel
theorem dX2_becomeLike_8 : decode cX2_becomeLike 8 = .ok (.aload_n 0, 1) := by decide +kernel
theorem dX2_becomeLike_9 : decode cX2_becomeLike 9 = .ok (.aload_n 1, 1) := by decide +kernel
theorem dX2_becomeLike_10 : decode cX2_becomeLike 10 = .ok (.getfield 20, 3) := by decide +kernel
theorem dX2_becomeLike_13 : decode cX2_becomeLike 13 = .ok (.putfield 20, 3) := by decide +kernel
theorem dX2_becomeLike_16 : decode cX2_becomeLike 16 = .ok (.aload_n 0, 1) := by decide +kernel
theorem dX2_becomeLike_17 : decode cX2_becomeLike 17 = .ok (.aload_n 1, 1) := by decide +kernel
theorem dX2_becomeLike_18 : decode cX2_becomeLike 18 = .ok (.getfield 28, 3) := by decide +kernel
theorem dX2_becomeLike_21 : decode cX2_becomeLike 21 = .ok (.putfield 28, 3) := by decide +kernel
theorem dX2_becomeLike_24 : decode cX2_becomeLike 24 = .ok (.aload_n 0, 1) := by decide +kernel
theorem dX2_becomeLike_25 : decode cX2_becomeLike 25 = .ok (.aload_n 1, 1) := by decide +kernel
theorem dX2_becomeLike_26 : decode cX2_becomeLike 26 = .ok (.getfield 32, 3) := by decide +kernel
theorem dX2_becomeLike_29 : decode cX2_becomeLike 29 = .ok (.putfield 32, 3) := by decide +kernel
theorem dX2_becomeLike_32 : decode cX2_becomeLike 32 = .ok (.aload_n 0, 1) := by decide +kernel
theorem dX2_becomeLike_33 : decode cX2_becomeLike 33 = .ok (.aload_n 1, 1) := by decide +kernel
theorem dX2_becomeLike_34 : decode cX2_becomeLike 34 = .ok (.getfield 35, 3) := by decide +kernel
theorem dX2_becomeLike_37 : decode cX2_becomeLike 37 = .ok (.putfield 35, 3) := by decide +kernel
theorem dX2_becomeLike_40 : decode cX2_becomeLike 40 = .ok (.aload_n 0, 1) := by decide +kernel
theorem dX2_becomeLike_41 : decode cX2_becomeLike 41 = .ok (.aload_n 1, 1) := by decide +kernel
theorem dX2_becomeLike_42 : decode cX2_becomeLike 42 = .ok (.getfield 38, 3) := by decide +kernel
theorem dX2_becomeLike_45 : decode cX2_becomeLike 45 = .ok (.putfield 38, 3) := by decide +kernel
theorem dX2_becomeLike_48 : decode cX2_becomeLike 48 = .ok (.iconst 0, 1) := by decide +kernel
theorem dX2_becomeLike_49 : decode cX2_becomeLike 49 = .ok (.istore_n 2, 1) := by decide +kernel
theorem dX2_becomeLike_50 : decode cX2_becomeLike 50 = .ok (.iload_n 2, 1) := by decide +kernel
theorem dX2_becomeLike_51 : decode cX2_becomeLike 51 = .ok (.aload_n 0, 1) := by decide +kernel
theorem dX2_becomeLike_52 : decode cX2_becomeLike 52 = .ok (.getfield 50, 3) := by decide +kernel
theorem dX2_becomeLike_55 : decode cX2_becomeLike 55 = .ok (.arraylength, 1) := by decide +kernel
theorem dX2_becomeLike_56 : decode cX2_becomeLike 56 = .ok (.if_icmp .ge 20, 3) := by decide +kernel
theorem dX2_becomeLike_59 : decode cX2_becomeLike 59 = .ok (.aload_n 0, 1) := by decide +kernel
theorem dX2_becomeLike_60 : decode cX2_becomeLike 60 = .ok (.getfield 50, 3) := by decide +kernel
theorem dX2_becomeLike_63 : decode cX2_becomeLike 63 = .ok (.iload_n 2, 1) := by decide +kernel
theorem dX2_becomeLike_64 : decode cX2_becomeLike 64 = .ok (.aload_n 1, 1) := by decide +kernel
theorem dX2_becomeLike_65 : decode cX2_becomeLike 65 = .ok (.iload_n 2, 1) := by decide +kernel
theorem dX2_becomeLike_66 : decode cX2_becomeLike 66 = .ok (.invokevirtual 58, 3) := by decide +kernel
theorem dX2_becomeLike_69 : decode cX2_becomeLike 69 = .ok (.dastore, 1) := by decide +kernel
theorem dX2_becomeLike_70 : decode cX2_becomeLike 70 = .ok (.iinc 2 1, 3) := by decide +kernel
theorem dX2_becomeLike_73 : decode cX2_becomeLike 73 = .ok (.goto (-23), 3) := by decide +kernel
theorem dX2_becomeLike_76 : decode cX2_becomeLike 76 = .ok (.return_, 1) := by decide +kernel
theorem dX2_hotAt_0 : decode cX2_hotAt 0 = .ok (.iload_n 0, 1) := by decide +kernel
theorem dX2_hotAt_1 : decode cX2_hotAt 1 = .ok (.ifCond .ne 9, 3) := by decide +kernel
theorem dX2_hotAt_4 : decode cX2_hotAt 4 = .ok (.dload_n 1, 1) := by decide +kernel
theorem dX2_hotAt_5 : decode cX2_hotAt 5 = .ok (.ldc2_w 62, 3) := by decide +kernel
theorem dX2_hotAt_8 : decode cX2_hotAt 8 = .ok (.dsub, 1) := by decide +kernel
theorem dX2_hotAt_9 : decode cX2_hotAt 9 = .ok (.dreturn, 1) := by decide +kernel
theorem dX2_hotAt_10 : decode cX2_hotAt 10 = .ok (.iload_n 0, 1) := by decide +kernel
theorem dX2_hotAt_11 : decode cX2_hotAt 11 = .ok (.iconst 1, 1) := by decide +kernel
theorem dX2_hotAt_12 : decode cX2_hotAt 12 = .ok (.if_icmp .ne 7, 3) := by decide +kernel
theorem dX2_hotAt_15 : decode cX2_hotAt 15 = .ok (.dload_n 1, 1) := by decide +kernel
theorem dX2_hotAt_16 : decode cX2_hotAt 16 = .ok (.goto 8, 3) := by decide +kernel
theorem dX2_hotAt_19 : decode cX2_hotAt 19 = .ok (.dload_n 1, 1) := by decide +kernel
theorem dX2_hotAt_20 : decode cX2_hotAt 20 = .ok (.ldc2_w 64, 3) := by decide +kernel
theorem dX2_hotAt_23 : decode cX2_hotAt 23 = .ok (.dadd, 1) := by decide +kernel
theorem dX2_hotAt_24 : decode cX2_hotAt 24 = .ok (.dreturn, 1) := by decide +kernel
theorem dX2_isInReach_0 : decode cX2_isInReach 0 = .ok (.aload_n 0, 1) := by decide +kernel
theorem dX2_isInReach_1 : decode cX2_isInReach 1 = .ok (.getfield 32, 3) := by decide +kernel
theorem dX2_isInReach_4 : decode cX2_isInReach 4 = .ok (.ifCond .ne 18, 3) := by decide +kernel
theorem dX2_isInReach_7 : decode cX2_isInReach 7 = .ok (.aload_n 0, 1) := by decide +kernel
theorem dX2_isInReach_8 : decode cX2_isInReach 8 = .ok (.getfield 11, 3) := by decide +kernel
theorem dX2_isInReach_11 : decode cX2_isInReach 11 = .ok (.ldc2_w 66, 3) := by decide +kernel
theorem dX2_isInReach_14 : decode cX2_isInReach 14 = .ok (.dcmp .g, 1) := by decide +kernel
theorem dX2_isInReach_15 : decode cX2_isInReach 15 = .ok (.ifCond .ge 7, 3) := by decide +kernel
theorem dX2_isInReach_18 : decode cX2_isInReach 18 = .ok (.iconst 1, 1) := by decide +kernel
theorem dX2_isInReach_19 : decode cX2_isInReach 19 = .ok (.goto 4, 3) := by decide +kernel
theorem dX2_isInReach_22 : decode cX2_isInReach 22 = .ok (.iconst 0, 1) := by decide +kernel
theorem dX2_isInReach_23 : decode cX2_isInReach 23 = .ok (.ireturn, 1) := by decide +kernel
theorem dX2_gives_0 : decode cX2_gives 0 = .ok (.aload_n 0, 1) := by decide +kernel
theorem dX2_gives_1 : decode cX2_gives 1 = .ok (.getfield 20, 3) := by decide +kernel
theorem dX2_gives_4 : decode cX2_gives 4 = .ok (.f2d, 1) := by decide +kernel
theorem dX2_gives_5 : decode cX2_gives 5 = .ok (.ldc2_w 68, 3) := by decide +kernel
theorem dX2_gives_8 : decode cX2_gives 8 = .ok (.dmul, 1) := by decide +kernel
theorem dX2_gives_9 : decode cX2_gives 9 = .ok (.aload_n 0, 1) := by decide +kernel
theorem dX2_gives_10 : decode cX2_gives 10 = .ok (.getfield 11, 3) := by decide +kernel
theorem dX2_gives_13 : decode cX2_gives 13 = .ok (.ldc2_w 9, 3) := by decide +kernel
theorem dX2_gives_16 : decode cX2_gives 16 = .ok (.dsub, 1) := by decide +kernel
theorem dX2_gives_17 : decode cX2_gives 17 = .ok (.ldc2_w 70, 3) := by decide +kernel
theorem dX2_gives_20 : decode cX2_gives 20 = .ok (.ddiv, 1) := by decide +kernel
theorem dX2_gives_21 : decode cX2_gives 21 = .ok (.dsub, 1) := by decide +kernel
theorem dX2_gives_22 : decode cX2_gives 22 = .ok (.dstore_n 1, 1) := by decide +kernel
theorem dX2_gives_23 : decode cX2_gives 23 = .ok (.aload_n 0, 1) := by decide +kernel
theorem dX2_gives_24 : decode cX2_gives 24 = .ok (.getfield 28, 3) := by decide +kernel
theorem dX2_gives_27 : decode cX2_gives 27 = .ok (.ifCond .eq 11, 3) := by decide +kernel
theorem dX2_gives_30 : decode cX2_gives 30 = .ok (.dload_n 1, 1) := by decide +kernel
theorem dX2_gives_31 : decode cX2_gives 31 = .ok (.ldc2_w 72, 3) := by decide +kernel
theorem dX2_gives_34 : decode cX2_gives 34 = .ok (.dsub, 1) := by decide +kernel
theorem dX2_gives_35 : decode cX2_gives 35 = .ok (.goto 4, 3) := by decide +kernel
theorem dX2_gives_38 : decode cX2_gives 38 = .ok (.dload_n 1, 1) := by decide +kernel
theorem dX2_gives_39 : decode cX2_gives 39 = .ok (.dreturn, 1) := by decide +kernel
theorem dX2_workOf_0 : decode cX2_workOf 0 = .ok (.iload_n 1, 1) := by decide +kernel
theorem dX2_workOf_1 : decode cX2_workOf 1 = .ok (.ifCond .lt 21, 3) := by decide +kernel
theorem dX2_workOf_4 : decode cX2_workOf 4 = .ok (.iload_n 1, 1) := by decide +kernel
theorem dX2_workOf_5 : decode cX2_workOf 5 = .ok (.aload_n 0, 1) := by decide +kernel
theorem dX2_workOf_6 : decode cX2_workOf 6 = .ok (.getfield 50, 3) := by decide +kernel
theorem dX2_workOf_9 : decode cX2_workOf 9 = .ok (.arraylength, 1) := by decide +kernel
theorem dX2_workOf_10 : decode cX2_workOf 10 = .ok (.if_icmp .ge 12, 3) := by decide +kernel
theorem dX2_workOf_13 : decode cX2_workOf 13 = .ok (.aload_n 0, 1) := by decide +kernel
theorem dX2_workOf_14 : decode cX2_workOf 14 = .ok (.getfield 50, 3) := by decide +kernel
theorem dX2_workOf_17 : decode cX2_workOf 17 = .ok (.iload_n 1, 1) := by decide +kernel
theorem dX2_workOf_18 : decode cX2_workOf 18 = .ok (.daload, 1) := by decide +kernel
theorem dX2_workOf_19 : decode cX2_workOf 19 = .ok (.goto 4, 3) := by decide +kernel
theorem dX2_workOf_22 : decode cX2_workOf 22 = .ok (.dconst 0, 1) := by decide +kernel
theorem dX2_workOf_23 : decode cX2_workOf 23 = .ok (.dreturn, 1) := by decide +kernel
theorem dX2_coneOf_0 : decode cX2_coneOf 0 = .ok (.aload_n 0, 1) := by decide +kernel
theorem dX2_coneOf_1 : decode cX2_coneOf 1 = .ok (.iload_n 1, 1) := by decide +kernel
theorem dX2_coneOf_2 : decode cX2_coneOf 2 = .ok (.invokevirtual 58, 3) := by decide +kernel
theorem dX2_coneOf_5 : decode cX2_coneOf 5 = .ok (.dstore_n 2, 1) := by decide +kernel
theorem dX2_coneOf_6 : decode cX2_coneOf 6 = .ok (.iconst 0, 1) := by decide +kernel
theorem dX2_coneOf_7 : decode cX2_coneOf 7 = .ok (.istore 4, 2) := by decide +kernel
theorem dX2_coneOf_9 : decode cX2_coneOf 9 = .ok (.getstatic 74, 3) := by decide +kernel
theorem dX2_coneOf_12 : decode cX2_coneOf 12 = .ok (.astore 5, 2) := by decide +kernel
theorem dX2_coneOf_14 : decode cX2_coneOf 14 = .ok (.aload 5, 2) := by decide +kernel
theorem dX2_coneOf_16 : decode cX2_coneOf 16 = .ok (.arraylength, 1) := by decide +kernel
theorem dX2_coneOf_17 : decode cX2_coneOf 17 = .ok (.istore 6, 2) := by decide +kernel
theorem dX2_coneOf_19 : decode cX2_coneOf 19 = .ok (.iconst 0, 1) := by decide +kernel
theorem dX2_coneOf_20 : decode cX2_coneOf 20 = .ok (.istore 7, 2) := by decide +kernel
theorem dX2_coneOf_22 : decode cX2_coneOf 22 = .ok (.iload 7, 2) := by decide +kernel
theorem dX2_coneOf_24 : decode cX2_coneOf 24 = .ok (.iload 6, 2) := by decide +kernel
theorem dX2_coneOf_26 : decode cX2_coneOf 26 = .ok (.if_icmp .ge 34, 3) := by decide +kernel
theorem dX2_coneOf_29 : decode cX2_coneOf 29 = .ok (.aload 5, 2) := by decide +kernel
theorem dX2_coneOf_31 : decode cX2_coneOf 31 = .ok (.iload 7, 2) := by decide +kernel
theorem dX2_coneOf_33 : decode cX2_coneOf 33 = .ok (.iaload, 1) := by decide +kernel
theorem dX2_coneOf_34 : decode cX2_coneOf 34 = .ok (.istore 8, 2) := by decide +kernel
theorem dX2_coneOf_36 : decode cX2_coneOf 36 = .ok (.iload 4, 2) := by decide +kernel
theorem dX2_coneOf_38 : decode cX2_coneOf 38 = .ok (.dload_n 2, 1) := by decide +kernel
theorem dX2_coneOf_39 : decode cX2_coneOf 39 = .ok (.iload 8, 2) := by decide +kernel
theorem dX2_coneOf_41 : decode cX2_coneOf 41 = .ok (.i2d, 1) := by decide +kernel
theorem dX2_coneOf_42 : decode cX2_coneOf 42 = .ok (.dcmp .l, 1) := by decide +kernel
theorem dX2_coneOf_43 : decode cX2_coneOf 43 = .ok (.ifCond .lt 7, 3) := by decide +kernel
theorem dX2_coneOf_46 : decode cX2_coneOf 46 = .ok (.iconst 1, 1) := by decide +kernel
theorem dX2_coneOf_47 : decode cX2_coneOf 47 = .ok (.goto 4, 3) := by decide +kernel
theorem dX2_coneOf_50 : decode cX2_coneOf 50 = .ok (.iconst 0, 1) := by decide +kernel
theorem dX2_coneOf_51 : decode cX2_coneOf 51 = .ok (.iadd, 1) := by decide +kernel
theorem dX2_coneOf_52 : decode cX2_coneOf 52 = .ok (.istore 4, 2) := by decide +kernel
theorem dX2_coneOf_54 : decode cX2_coneOf 54 = .ok (.iinc 7 1, 3) := by decide +kernel
theorem dX2_coneOf_57 : decode cX2_coneOf 57 = .ok (.goto (-35), 3) := by decide +kernel
theorem dX2_coneOf_60 : decode cX2_coneOf 60 = .ok (.iload 4, 2) := by decide +kernel
theorem dX2_coneOf_62 : decode cX2_coneOf 62 = .ok (.ireturn, 1) := by decide +kernel
theorem dX2_kindle_0 : decode cX2_kindle 0 = .ok (.aload_n 0, 1) := by decide +kernel
theorem dX2_kindle_1 : decode cX2_kindle 1 = .ok (.iconst 1, 1) := by decide +kernel
theorem dX2_kindle_2 : decode cX2_kindle 2 = .ok (.putfield 32, 3) := by decide +kernel
theorem dX2_kindle_5 : decode cX2_kindle 5 = .ok (.aload_n 0, 1) := by decide +kernel
theorem dX2_kindle_6 : decode cX2_kindle 6 = .ok (.iconst 0, 1) := by decide +kernel
theorem dX2_kindle_7 : decode cX2_kindle 7 = .ok (.putfield 35, 3) := by decide +kernel
theorem dX2_kindle_10 : decode cX2_kindle 10 = .ok (.aload_n 0, 1) := by decide +kernel
theorem dX2_kindle_11 : decode cX2_kindle 11 = .ok (.iconst 0, 1) := by decide +kernel
theorem dX2_kindle_12 : decode cX2_kindle 12 = .ok (.putfield 38, 3) := by decide +kernel
theorem dX2_kindle_15 : decode cX2_kindle 15 = .ok (.return_, 1) := by decide +kernel
theorem dX2_step_0 : decode cX2_step 0 = .ok (.aload_n 0, 1) := by decide +kernel
theorem dX2_step_1 : decode cX2_step 1 = .ok (.aload_n 0, 1) := by decide +kernel
theorem dX2_step_2 : decode cX2_step 2 = .ok (.getfield 11, 3) := by decide +kernel
theorem dX2_step_5 : decode cX2_step 5 = .ok (.putfield 17, 3) := by decide +kernel
theorem dX2_step_8 : decode cX2_step 8 = .ok (.aload_n 0, 1) := by decide +kernel
theorem dX2_step_9 : decode cX2_step 9 = .ok (.invokevirtual 78, 3) := by decide +kernel
theorem dX2_step_12 : decode cX2_step 12 = .ok (.aload_n 0, 1) := by decide +kernel
theorem dX2_step_13 : decode cX2_step 13 = .ok (.getfield 32, 3) := by decide +kernel
theorem dX2_step_16 : decode cX2_step 16 = .ok (.ifCond .eq 17, 3) := by decide +kernel
theorem dX2_step_19 : decode cX2_step 19 = .ok (.aload_n 0, 1) := by decide +kernel
theorem dX2_step_20 : decode cX2_step 20 = .ok (.getfield 54, 3) := by decide +kernel
theorem dX2_step_23 : decode cX2_step 23 = .ok (.aload_n 0, 1) := by decide +kernel
theorem dX2_step_24 : decode cX2_step 24 = .ok (.getfield 35, 3) := by decide +kernel
theorem dX2_step_27 : decode cX2_step 27 = .ok (.invokevirtual 81, 3) := by decide +kernel
theorem dX2_step_30 : decode cX2_step 30 = .ok (.goto 4, 3) := by decide +kernel
theorem dX2_step_33 : decode cX2_step 33 = .ok (.aconst_null, 1) := by decide +kernel
theorem dX2_step_34 : decode cX2_step 34 = .ok (.astore_n 1, 1) := by decide +kernel
theorem dX2_step_35 : decode cX2_step 35 = .ok (.aload_n 1, 1) := by decide +kernel
theorem dX2_step_36 : decode cX2_step 36 = .ok (.ifnonnull 10, 3) := by decide +kernel
theorem dX2_step_39 : decode cX2_step 39 = .ok (.aload_n 0, 1) := by decide +kernel
theorem dX2_step_40 : decode cX2_step 40 = .ok (.invokevirtual 87, 3) := by decide +kernel
theorem dX2_step_43 : decode cX2_step 43 = .ok (.goto 12, 3) := by decide +kernel
theorem dX2_step_46 : decode cX2_step 46 = .ok (.aload_n 0, 1) := by decide +kernel
theorem dX2_step_47 : decode cX2_step 47 = .ok (.aload_n 1, 1) := by decide +kernel
theorem dX2_step_48 : decode cX2_step 48 = .ok (.invokevirtual 90, 3) := by decide +kernel
theorem dX2_step_51 : decode cX2_step 51 = .ok (.aload_n 0, 1) := by decide +kernel
theorem dX2_step_52 : decode cX2_step 52 = .ok (.invokevirtual 94, 3) := by decide +kernel
theorem dX2_step_55 : decode cX2_step 55 = .ok (.aload_n 0, 1) := by decide +kernel
theorem dX2_step_56 : decode cX2_step 56 = .ok (.invokevirtual 97, 3) := by decide +kernel
theorem dX2_step_59 : decode cX2_step 59 = .ok (.aload_n 0, 1) := by decide +kernel
theorem dX2_step_60 : decode cX2_step 60 = .ok (.dup, 1) := by decide +kernel
theorem dX2_step_61 : decode cX2_step 61 = .ok (.getfield 41, 3) := by decide +kernel
theorem dX2_step_64 : decode cX2_step 64 = .ok (.iconst 1, 1) := by decide +kernel
theorem dX2_step_65 : decode cX2_step 65 = .ok (.iadd, 1) := by decide +kernel
theorem dX2_step_66 : decode cX2_step 66 = .ok (.putfield 41, 3) := by decide +kernel
theorem dX2_step_69 : decode cX2_step 69 = .ok (.return_, 1) := by decide +kernel
theorem dX2_passRamps_0 : decode cX2_passRamps 0 = .ok (.iconst 0, 1) := by decide +kernel
theorem dX2_passRamps_1 : decode cX2_passRamps 1 = .ok (.istore_n 1, 1) := by decide +kernel
theorem dX2_passRamps_2 : decode cX2_passRamps 2 = .ok (.aload_n 0, 1) := by decide +kernel
theorem dX2_passRamps_3 : decode cX2_passRamps 3 = .ok (.getfield 32, 3) := by decide +kernel
theorem dX2_passRamps_6 : decode cX2_passRamps 6 = .ok (.ifCond .eq 93, 3) := by decide +kernel
theorem dX2_passRamps_9 : decode cX2_passRamps 9 = .ok (.iload_n 1, 1) := by decide +kernel
theorem dX2_passRamps_10 : decode cX2_passRamps 10 = .ok (.iconst 5, 1) := by decide +kernel
theorem dX2_passRamps_11 : decode cX2_passRamps 11 = .ok (.if_icmp .ge 88, 3) := by decide +kernel
theorem dX2_passRamps_14 : decode cX2_passRamps 14 = .ok (.aload_n 0, 1) := by decide +kernel
theorem dX2_passRamps_15 : decode cX2_passRamps 15 = .ok (.getfield 54, 3) := by decide +kernel
theorem dX2_passRamps_18 : decode cX2_passRamps 18 = .ok (.aload_n 0, 1) := by decide +kernel
theorem dX2_passRamps_19 : decode cX2_passRamps 19 = .ok (.getfield 35, 3) := by decide +kernel
theorem dX2_passRamps_22 : decode cX2_passRamps 22 = .ok (.invokevirtual 81, 3) := by decide +kernel
theorem dX2_passRamps_25 : decode cX2_passRamps 25 = .ok (.astore_n 2, 1) := by decide +kernel
theorem dX2_passRamps_26 : decode cX2_passRamps 26 = .ok (.aload_n 2, 1) := by decide +kernel
theorem dX2_passRamps_27 : decode cX2_passRamps 27 = .ok (.ifnull 28, 3) := by decide +kernel
theorem dX2_passRamps_30 : decode cX2_passRamps 30 = .ok (.aload_n 0, 1) := by decide +kernel
theorem dX2_passRamps_31 : decode cX2_passRamps 31 = .ok (.getfield 11, 3) := by decide +kernel
theorem dX2_passRamps_34 : decode cX2_passRamps 34 = .ok (.aload_n 2, 1) := by decide +kernel
theorem dX2_passRamps_35 : decode cX2_passRamps 35 = .ok (.getfield 100, 3) := by decide +kernel
theorem dX2_passRamps_38 : decode cX2_passRamps 38 = .ok (.i2d, 1) := by decide +kernel
theorem dX2_passRamps_39 : decode cX2_passRamps 39 = .ok (.dcmp .l, 1) := by decide +kernel
theorem dX2_passRamps_40 : decode cX2_passRamps 40 = .ok (.ifCond .ne 14, 3) := by decide +kernel
theorem dX2_passRamps_43 : decode cX2_passRamps 43 = .ok (.aload_n 0, 1) := by decide +kernel
theorem dX2_passRamps_44 : decode cX2_passRamps 44 = .ok (.getfield 38, 3) := by decide +kernel
theorem dX2_passRamps_47 : decode cX2_passRamps 47 = .ok (.aload_n 2, 1) := by decide +kernel
theorem dX2_passRamps_48 : decode cX2_passRamps 48 = .ok (.getfield 105, 3) := by decide +kernel
theorem dX2_passRamps_51 : decode cX2_passRamps 51 = .ok (.if_icmp .eq 4, 3) := by decide +kernel
theorem dX2_passRamps_54 : decode cX2_passRamps 54 = .ok (.return_, 1) := by decide +kernel
theorem dX2_passRamps_55 : decode cX2_passRamps 55 = .ok (.aload_n 0, 1) := by decide +kernel
theorem dX2_passRamps_56 : decode cX2_passRamps 56 = .ok (.dup, 1) := by decide +kernel
theorem dX2_passRamps_57 : decode cX2_passRamps 57 = .ok (.getfield 35, 3) := by decide +kernel
theorem dX2_passRamps_60 : decode cX2_passRamps 60 = .ok (.iconst 1, 1) := by decide +kernel
theorem dX2_passRamps_61 : decode cX2_passRamps 61 = .ok (.iadd, 1) := by decide +kernel
theorem dX2_passRamps_62 : decode cX2_passRamps 62 = .ok (.putfield 35, 3) := by decide +kernel
theorem dX2_passRamps_65 : decode cX2_passRamps 65 = .ok (.aload_n 0, 1) := by decide +kernel
theorem dX2_passRamps_66 : decode cX2_passRamps 66 = .ok (.iconst 0, 1) := by decide +kernel
theorem dX2_passRamps_67 : decode cX2_passRamps 67 = .ok (.putfield 38, 3) := by decide +kernel
theorem dX2_passRamps_70 : decode cX2_passRamps 70 = .ok (.aload_n 0, 1) := by decide +kernel
theorem dX2_passRamps_71 : decode cX2_passRamps 71 = .ok (.aload_n 0, 1) := by decide +kernel
theorem dX2_passRamps_72 : decode cX2_passRamps 72 = .ok (.getfield 35, 3) := by decide +kernel
theorem dX2_passRamps_75 : decode cX2_passRamps 75 = .ok (.aload_n 0, 1) := by decide +kernel
theorem dX2_passRamps_76 : decode cX2_passRamps 76 = .ok (.getfield 54, 3) := by decide +kernel
theorem dX2_passRamps_79 : decode cX2_passRamps 79 = .ok (.getfield 108, 3) := by decide +kernel
theorem dX2_passRamps_82 : decode cX2_passRamps 82 = .ok (.if_icmp .ge 7, 3) := by decide +kernel
theorem dX2_passRamps_85 : decode cX2_passRamps 85 = .ok (.iconst 1, 1) := by decide +kernel
theorem dX2_passRamps_86 : decode cX2_passRamps 86 = .ok (.goto 4, 3) := by decide +kernel
theorem dX2_passRamps_89 : decode cX2_passRamps 89 = .ok (.iconst 0, 1) := by decide +kernel
theorem dX2_passRamps_90 : decode cX2_passRamps 90 = .ok (.putfield 32, 3) := by decide +kernel
theorem dX2_passRamps_93 : decode cX2_passRamps 93 = .ok (.iinc 1 1, 3) := by decide +kernel
theorem dX2_passRamps_96 : decode cX2_passRamps 96 = .ok (.goto (-94), 3) := by decide +kernel
theorem dX2_passRamps_99 : decode cX2_passRamps 99 = .ok (.return_, 1) := by decide +kernel
theorem dX2_follow_0 : decode cX2_follow 0 = .ok (.aload_n 0, 1) := by decide +kernel
theorem dX2_follow_1 : decode cX2_follow 1 = .ok (.getfield 11, 3) := by decide +kernel
theorem dX2_follow_4 : decode cX2_follow 4 = .ok (.aload_n 1, 1) := by decide +kernel
theorem dX2_follow_5 : decode cX2_follow 5 = .ok (.getfield 100, 3) := by decide +kernel
theorem dX2_follow_8 : decode cX2_follow 8 = .ok (.i2d, 1) := by decide +kernel
theorem dX2_follow_9 : decode cX2_follow 9 = .ok (.dcmp .g, 1) := by decide +kernel
theorem dX2_follow_10 : decode cX2_follow 10 = .ok (.ifCond .ge 11, 3) := by decide +kernel
theorem dX2_follow_13 : decode cX2_follow 13 = .ok (.aload_n 0, 1) := by decide +kernel
theorem dX2_follow_14 : decode cX2_follow 14 = .ok (.aload_n 1, 1) := by decide +kernel
theorem dX2_follow_15 : decode cX2_follow 15 = .ok (.invokevirtual 111, 3) := by decide +kernel
theorem dX2_follow_18 : decode cX2_follow 18 = .ok (.goto 34, 3) := by decide +kernel
theorem dX2_follow_21 : decode cX2_follow 21 = .ok (.aload_n 0, 1) := by decide +kernel
theorem dX2_follow_22 : decode cX2_follow 22 = .ok (.getfield 11, 3) := by decide +kernel
theorem dX2_follow_25 : decode cX2_follow 25 = .ok (.aload_n 1, 1) := by decide +kernel
theorem dX2_follow_26 : decode cX2_follow 26 = .ok (.getfield 100, 3) := by decide +kernel
theorem dX2_follow_29 : decode cX2_follow 29 = .ok (.i2d, 1) := by decide +kernel
theorem dX2_follow_30 : decode cX2_follow 30 = .ok (.dcmp .l, 1) := by decide +kernel
theorem dX2_follow_31 : decode cX2_follow 31 = .ok (.ifCond .le 11, 3) := by decide +kernel
theorem dX2_follow_34 : decode cX2_follow 34 = .ok (.aload_n 0, 1) := by decide +kernel
theorem dX2_follow_35 : decode cX2_follow 35 = .ok (.aload_n 1, 1) := by decide +kernel
theorem dX2_follow_36 : decode cX2_follow 36 = .ok (.invokevirtual 114, 3) := by decide +kernel
theorem dX2_follow_39 : decode cX2_follow 39 = .ok (.goto 13, 3) := by decide +kernel
theorem dX2_follow_42 : decode cX2_follow 42 = .ok (.aload_n 0, 1) := by decide +kernel
theorem dX2_follow_43 : decode cX2_follow 43 = .ok (.dup, 1) := by decide +kernel
theorem dX2_follow_44 : decode cX2_follow 44 = .ok (.getfield 38, 3) := by decide +kernel
theorem dX2_follow_47 : decode cX2_follow 47 = .ok (.iconst 1, 1) := by decide +kernel
theorem dX2_follow_48 : decode cX2_follow 48 = .ok (.iadd, 1) := by decide +kernel
theorem dX2_follow_49 : decode cX2_follow 49 = .ok (.putfield 38, 3) := by decide +kernel
theorem dX2_follow_52 : decode cX2_follow 52 = .ok (.return_, 1) := by decide +kernel
theorem dX2_rise_0 : decode cX2_rise 0 = .ok (.aload_n 0, 1) := by decide +kernel
theorem dX2_rise_1 : decode cX2_rise 1 = .ok (.invokevirtual 117, 3) := by decide +kernel
theorem dX2_rise_4 : decode cX2_rise 4 = .ok (.dstore_n 2, 1) := by decide +kernel
theorem dX2_rise_5 : decode cX2_rise 5 = .ok (.dload_n 2, 1) := by decide +kernel
theorem dX2_rise_6 : decode cX2_rise 6 = .ok (.dconst 1, 1) := by decide +kernel
theorem dX2_rise_7 : decode cX2_rise 7 = .ok (.dcmp .g, 1) := by decide +kernel
theorem dX2_rise_8 : decode cX2_rise 8 = .ok (.ifCond .ge 19, 3) := by decide +kernel
theorem dX2_rise_11 : decode cX2_rise 11 = .ok (.aload_n 0, 1) := by decide +kernel
theorem dX2_rise_12 : decode cX2_rise 12 = .ok (.iconst 0, 1) := by decide +kernel
theorem dX2_rise_13 : decode cX2_rise 13 = .ok (.putfield 32, 3) := by decide +kernel
theorem dX2_rise_16 : decode cX2_rise 16 = .ok (.aload_n 0, 1) := by decide +kernel
theorem dX2_rise_17 : decode cX2_rise 17 = .ok (.dup, 1) := by decide +kernel
theorem dX2_rise_18 : decode cX2_rise 18 = .ok (.getfield 47, 3) := by decide +kernel
theorem dX2_rise_21 : decode cX2_rise 21 = .ok (.iconst 1, 1) := by decide +kernel
theorem dX2_rise_22 : decode cX2_rise 22 = .ok (.iadd, 1) := by decide +kernel
theorem dX2_rise_23 : decode cX2_rise 23 = .ok (.putfield 47, 3) := by decide +kernel
theorem dX2_rise_26 : decode cX2_rise 26 = .ok (.return_, 1) := by decide +kernel
theorem dX2_rise_27 : decode cX2_rise 27 = .ok (.aload_n 0, 1) := by decide +kernel
theorem dX2_rise_28 : decode cX2_rise 28 = .ok (.getfield 11, 3) := by decide +kernel
theorem dX2_rise_31 : decode cX2_rise 31 = .ok (.dload_n 2, 1) := by decide +kernel
theorem dX2_rise_32 : decode cX2_rise 32 = .ok (.aload_n 1, 1) := by decide +kernel
theorem dX2_rise_33 : decode cX2_rise 33 = .ok (.getfield 121, 3) := by decide +kernel
theorem dX2_rise_36 : decode cX2_rise 36 = .ok (.i2d, 1) := by decide +kernel
theorem dX2_rise_37 : decode cX2_rise 37 = .ok (.dcmp .g, 1) := by decide +kernel
theorem dX2_rise_38 : decode cX2_rise 38 = .ok (.ifCond .ge 7, 3) := by decide +kernel
theorem dX2_rise_41 : decode cX2_rise 41 = .ok (.dload_n 2, 1) := by decide +kernel
theorem dX2_rise_42 : decode cX2_rise 42 = .ok (.goto 8, 3) := by decide +kernel
theorem dX2_rise_45 : decode cX2_rise 45 = .ok (.aload_n 1, 1) := by decide +kernel
theorem dX2_rise_46 : decode cX2_rise 46 = .ok (.getfield 121, 3) := by decide +kernel
theorem dX2_rise_49 : decode cX2_rise 49 = .ok (.i2d, 1) := by decide +kernel
theorem dX2_rise_50 : decode cX2_rise 50 = .ok (.dadd, 1) := by decide +kernel
theorem dX2_rise_51 : decode cX2_rise 51 = .ok (.dstore 4, 2) := by decide +kernel
theorem dX2_rise_53 : decode cX2_rise 53 = .ok (.aload_n 0, 1) := by decide +kernel
theorem dX2_rise_54 : decode cX2_rise 54 = .ok (.dload 4, 2) := by decide +kernel
theorem dX2_rise_56 : decode cX2_rise 56 = .ok (.aload_n 1, 1) := by decide +kernel
theorem dX2_rise_57 : decode cX2_rise 57 = .ok (.getfield 100, 3) := by decide +kernel
theorem dX2_rise_60 : decode cX2_rise 60 = .ok (.i2d, 1) := by decide +kernel
theorem dX2_rise_61 : decode cX2_rise 61 = .ok (.dcmp .l, 1) := by decide +kernel
theorem dX2_rise_62 : decode cX2_rise 62 = .ok (.ifCond .le 11, 3) := by decide +kernel
theorem dX2_rise_65 : decode cX2_rise 65 = .ok (.aload_n 1, 1) := by decide +kernel
theorem dX2_rise_66 : decode cX2_rise 66 = .ok (.getfield 100, 3) := by decide +kernel
theorem dX2_rise_69 : decode cX2_rise 69 = .ok (.i2d, 1) := by decide +kernel
theorem dX2_rise_70 : decode cX2_rise 70 = .ok (.goto 5, 3) := by decide +kernel
theorem dX2_rise_73 : decode cX2_rise 73 = .ok (.dload 4, 2) := by decide +kernel
theorem dX2_rise_75 : decode cX2_rise 75 = .ok (.putfield 11, 3) := by decide +kernel
theorem dX2_rise_78 : decode cX2_rise 78 = .ok (.return_, 1) := by decide +kernel
theorem dX2_fall_0 : decode cX2_fall 0 = .ok (.aload_n 0, 1) := by decide +kernel
theorem dX2_fall_1 : decode cX2_fall 1 = .ok (.getfield 11, 3) := by decide +kernel
theorem dX2_fall_4 : decode cX2_fall 4 = .ok (.ldc2_w 9, 3) := by decide +kernel
theorem dX2_fall_7 : decode cX2_fall 7 = .ok (.dsub, 1) := by decide +kernel
theorem dX2_fall_8 : decode cX2_fall 8 = .ok (.ldc2_w 64, 3) := by decide +kernel
theorem dX2_fall_11 : decode cX2_fall 11 = .ok (.ddiv, 1) := by decide +kernel
theorem dX2_fall_12 : decode cX2_fall 12 = .ok (.dstore_n 2, 1) := by decide +kernel
theorem dX2_fall_13 : decode cX2_fall 13 = .ok (.aload_n 0, 1) := by decide +kernel
theorem dX2_fall_14 : decode cX2_fall 14 = .ok (.getfield 11, 3) := by decide +kernel
theorem dX2_fall_17 : decode cX2_fall 17 = .ok (.dload_n 2, 1) := by decide +kernel
theorem dX2_fall_18 : decode cX2_fall 18 = .ok (.aload_n 1, 1) := by decide +kernel
theorem dX2_fall_19 : decode cX2_fall 19 = .ok (.getfield 121, 3) := by decide +kernel
theorem dX2_fall_22 : decode cX2_fall 22 = .ok (.i2d, 1) := by decide +kernel
theorem dX2_fall_23 : decode cX2_fall 23 = .ok (.dcmp .g, 1) := by decide +kernel
theorem dX2_fall_24 : decode cX2_fall 24 = .ok (.ifCond .ge 7, 3) := by decide +kernel
theorem dX2_fall_27 : decode cX2_fall 27 = .ok (.dload_n 2, 1) := by decide +kernel
theorem dX2_fall_28 : decode cX2_fall 28 = .ok (.goto 8, 3) := by decide +kernel
theorem dX2_fall_31 : decode cX2_fall 31 = .ok (.aload_n 1, 1) := by decide +kernel
theorem dX2_fall_32 : decode cX2_fall 32 = .ok (.getfield 121, 3) := by decide +kernel
theorem dX2_fall_35 : decode cX2_fall 35 = .ok (.i2d, 1) := by decide +kernel
theorem dX2_fall_36 : decode cX2_fall 36 = .ok (.dsub, 1) := by decide +kernel
theorem dX2_fall_37 : decode cX2_fall 37 = .ok (.dstore 4, 2) := by decide +kernel
theorem dX2_fall_39 : decode cX2_fall 39 = .ok (.aload_n 0, 1) := by decide +kernel
theorem dX2_fall_40 : decode cX2_fall 40 = .ok (.dload 4, 2) := by decide +kernel
theorem dX2_fall_42 : decode cX2_fall 42 = .ok (.aload_n 1, 1) := by decide +kernel
theorem dX2_fall_43 : decode cX2_fall 43 = .ok (.getfield 100, 3) := by decide +kernel
theorem dX2_fall_46 : decode cX2_fall 46 = .ok (.i2d, 1) := by decide +kernel
theorem dX2_fall_47 : decode cX2_fall 47 = .ok (.dcmp .g, 1) := by decide +kernel
theorem dX2_fall_48 : decode cX2_fall 48 = .ok (.ifCond .ge 11, 3) := by decide +kernel
theorem dX2_fall_51 : decode cX2_fall 51 = .ok (.aload_n 1, 1) := by decide +kernel
theorem dX2_fall_52 : decode cX2_fall 52 = .ok (.getfield 100, 3) := by decide +kernel
theorem dX2_fall_55 : decode cX2_fall 55 = .ok (.i2d, 1) := by decide +kernel
theorem dX2_fall_56 : decode cX2_fall 56 = .ok (.goto 5, 3) := by decide +kernel
theorem dX2_fall_59 : decode cX2_fall 59 = .ok (.dload 4, 2) := by decide +kernel
theorem dX2_fall_61 : decode cX2_fall 61 = .ok (.putfield 11, 3) := by decide +kernel
theorem dX2_fall_64 : decode cX2_fall 64 = .ok (.return_, 1) := by decide +kernel
theorem dX2_coolDown_0 : decode cX2_coolDown 0 = .ok (.aload_n 0, 1) := by decide +kernel
theorem dX2_coolDown_1 : decode cX2_coolDown 1 = .ok (.aload_n 0, 1) := by decide +kernel
theorem dX2_coolDown_2 : decode cX2_coolDown 2 = .ok (.getfield 11, 3) := by decide +kernel
theorem dX2_coolDown_5 : decode cX2_coolDown 5 = .ok (.aload_n 0, 1) := by decide +kernel
theorem dX2_coolDown_6 : decode cX2_coolDown 6 = .ok (.getfield 11, 3) := by decide +kernel
theorem dX2_coolDown_9 : decode cX2_coolDown 9 = .ok (.ldc2_w 9, 3) := by decide +kernel
theorem dX2_coolDown_12 : decode cX2_coolDown 12 = .ok (.dsub, 1) := by decide +kernel
theorem dX2_coolDown_13 : decode cX2_coolDown 13 = .ok (.aload_n 0, 1) := by decide +kernel
theorem dX2_coolDown_14 : decode cX2_coolDown 14 = .ok (.getfield 28, 3) := by decide +kernel
theorem dX2_coolDown_17 : decode cX2_coolDown 17 = .ok (.ifCond .eq 9, 3) := by decide +kernel
theorem dX2_coolDown_20 : decode cX2_coolDown 20 = .ok (.ldc2_w 124, 3) := by decide +kernel
theorem dX2_coolDown_23 : decode cX2_coolDown 23 = .ok (.goto 6, 3) := by decide +kernel
theorem dX2_coolDown_26 : decode cX2_coolDown 26 = .ok (.ldc2_w 64, 3) := by decide +kernel
theorem dX2_coolDown_29 : decode cX2_coolDown 29 = .ok (.ddiv, 1) := by decide +kernel
theorem dX2_coolDown_30 : decode cX2_coolDown 30 = .ok (.dsub, 1) := by decide +kernel
theorem dX2_coolDown_31 : decode cX2_coolDown 31 = .ok (.putfield 11, 3) := by decide +kernel
theorem dX2_coolDown_34 : decode cX2_coolDown 34 = .ok (.return_, 1) := by decide +kernel
theorem dX2_payFuel_0 : decode cX2_payFuel 0 = .ok (.aload_n 0, 1) := by decide +kernel
theorem dX2_payFuel_1 : decode cX2_payFuel 1 = .ok (.getfield 41, 3) := by decide +kernel
theorem dX2_payFuel_4 : decode cX2_payFuel 4 = .ok (.bipush 96, 2) := by decide +kernel
theorem dX2_payFuel_6 : decode cX2_payFuel 6 = .ok (.irem, 1) := by decide +kernel
theorem dX2_payFuel_7 : decode cX2_payFuel 7 = .ok (.istore_n 1, 1) := by decide +kernel
theorem dX2_payFuel_8 : decode cX2_payFuel 8 = .ok (.aload_n 0, 1) := by decide +kernel
theorem dX2_payFuel_9 : decode cX2_payFuel 9 = .ok (.dup, 1) := by decide +kernel
theorem dX2_payFuel_10 : decode cX2_payFuel 10 = .ok (.getfield 44, 3) := by decide +kernel
theorem dX2_payFuel_13 : decode cX2_payFuel 13 = .ok (.iload_n 1, 1) := by decide +kernel
theorem dX2_payFuel_14 : decode cX2_payFuel 14 = .ok (.bipush 32, 2) := by decide +kernel
theorem dX2_payFuel_16 : decode cX2_payFuel 16 = .ok (.if_icmp .lt 13, 3) := by decide +kernel
theorem dX2_payFuel_19 : decode cX2_payFuel 19 = .ok (.iload_n 1, 1) := by decide +kernel
theorem dX2_payFuel_20 : decode cX2_payFuel 20 = .ok (.bipush 79, 2) := by decide +kernel
theorem dX2_payFuel_22 : decode cX2_payFuel 22 = .ok (.if_icmp .gt 7, 3) := by decide +kernel
theorem dX2_payFuel_25 : decode cX2_payFuel 25 = .ok (.iconst 2, 1) := by decide +kernel
theorem dX2_payFuel_26 : decode cX2_payFuel 26 = .ok (.goto 4, 3) := by decide +kernel
theorem dX2_payFuel_29 : decode cX2_payFuel 29 = .ok (.iconst 1, 1) := by decide +kernel
theorem dX2_payFuel_30 : decode cX2_payFuel 30 = .ok (.iadd, 1) := by decide +kernel
theorem dX2_payFuel_31 : decode cX2_payFuel 31 = .ok (.putfield 44, 3) := by decide +kernel
theorem dX2_payFuel_34 : decode cX2_payFuel 34 = .ok (.return_, 1) := by decide +kernel
theorem dX2_addWork_0 : decode cX2_addWork 0 = .ok (.iconst 0, 1) := by decide +kernel
theorem dX2_addWork_1 : decode cX2_addWork 1 = .ok (.istore_n 1, 1) := by decide +kernel
theorem dX2_addWork_2 : decode cX2_addWork 2 = .ok (.iload_n 1, 1) := by decide +kernel
theorem dX2_addWork_3 : decode cX2_addWork 3 = .ok (.aload_n 0, 1) := by decide +kernel
theorem dX2_addWork_4 : decode cX2_addWork 4 = .ok (.getfield 50, 3) := by decide +kernel
theorem dX2_addWork_7 : decode cX2_addWork 7 = .ok (.arraylength, 1) := by decide +kernel
theorem dX2_addWork_8 : decode cX2_addWork 8 = .ok (.if_icmp .ge 44, 3) := by decide +kernel
theorem dX2_addWork_11 : decode cX2_addWork 11 = .ok (.iload_n 1, 1) := by decide +kernel
theorem dX2_addWork_12 : decode cX2_addWork 12 = .ok (.aload_n 0, 1) := by decide +kernel
theorem dX2_addWork_13 : decode cX2_addWork 13 = .ok (.getfield 11, 3) := by decide +kernel
theorem dX2_addWork_16 : decode cX2_addWork 16 = .ok (.invokestatic 126, 3) := by decide +kernel
theorem dX2_addWork_19 : decode cX2_addWork 19 = .ok (.dstore_n 2, 1) := by decide +kernel
theorem dX2_addWork_20 : decode cX2_addWork 20 = .ok (.dload_n 2, 1) := by decide +kernel
theorem dX2_addWork_21 : decode cX2_addWork 21 = .ok (.ldc2_w 130, 3) := by decide +kernel
theorem dX2_addWork_24 : decode cX2_addWork 24 = .ok (.dcmp .l, 1) := by decide +kernel
theorem dX2_addWork_25 : decode cX2_addWork 25 = .ok (.ifCond .le 21, 3) := by decide +kernel
theorem dX2_addWork_28 : decode cX2_addWork 28 = .ok (.aload_n 0, 1) := by decide +kernel
theorem dX2_addWork_29 : decode cX2_addWork 29 = .ok (.getfield 50, 3) := by decide +kernel
theorem dX2_addWork_32 : decode cX2_addWork 32 = .ok (.iload_n 1, 1) := by decide +kernel
theorem dX2_addWork_33 : decode cX2_addWork 33 = .ok (.dup2, 1) := by decide +kernel
theorem dX2_addWork_34 : decode cX2_addWork 34 = .ok (.daload, 1) := by decide +kernel
theorem dX2_addWork_35 : decode cX2_addWork 35 = .ok (.dload_n 2, 1) := by decide +kernel
theorem dX2_addWork_36 : decode cX2_addWork 36 = .ok (.ldc2_w 130, 3) := by decide +kernel
theorem dX2_addWork_39 : decode cX2_addWork 39 = .ok (.dsub, 1) := by decide +kernel
theorem dX2_addWork_40 : decode cX2_addWork 40 = .ok (.ldc2_w 132, 3) := by decide +kernel
theorem dX2_addWork_43 : decode cX2_addWork 43 = .ok (.ddiv, 1) := by decide +kernel
theorem dX2_addWork_44 : decode cX2_addWork 44 = .ok (.dadd, 1) := by decide +kernel
theorem dX2_addWork_45 : decode cX2_addWork 45 = .ok (.dastore, 1) := by decide +kernel
theorem dX2_addWork_46 : decode cX2_addWork 46 = .ok (.iinc 1 1, 3) := by decide +kernel
theorem dX2_addWork_49 : decode cX2_addWork 49 = .ok (.goto (-47), 3) := by decide +kernel
theorem dX2_addWork_52 : decode cX2_addWork 52 = .ok (.return_, 1) := by decide +kernel
theorem dX2_clearWorks_0 : decode cX2_clearWorks 0 = .ok (.iconst 0, 1) := by decide +kernel
theorem dX2_clearWorks_1 : decode cX2_clearWorks 1 = .ok (.istore_n 1, 1) := by decide +kernel
theorem dX2_clearWorks_2 : decode cX2_clearWorks 2 = .ok (.iconst 0, 1) := by decide +kernel
theorem dX2_clearWorks_3 : decode cX2_clearWorks 3 = .ok (.istore_n 2, 1) := by decide +kernel
theorem dX2_clearWorks_4 : decode cX2_clearWorks 4 = .ok (.iload_n 2, 1) := by decide +kernel
theorem dX2_clearWorks_5 : decode cX2_clearWorks 5 = .ok (.aload_n 0, 1) := by decide +kernel
theorem dX2_clearWorks_6 : decode cX2_clearWorks 6 = .ok (.getfield 50, 3) := by decide +kernel
theorem dX2_clearWorks_9 : decode cX2_clearWorks 9 = .ok (.arraylength, 1) := by decide +kernel
theorem dX2_clearWorks_10 : decode cX2_clearWorks 10 = .ok (.if_icmp .ge 29, 3) := by decide +kernel
theorem dX2_clearWorks_13 : decode cX2_clearWorks 13 = .ok (.aload_n 0, 1) := by decide +kernel
theorem dX2_clearWorks_14 : decode cX2_clearWorks 14 = .ok (.getfield 50, 3) := by decide +kernel
theorem dX2_clearWorks_17 : decode cX2_clearWorks 17 = .ok (.iload_n 2, 1) := by decide +kernel
theorem dX2_clearWorks_18 : decode cX2_clearWorks 18 = .ok (.daload, 1) := by decide +kernel
theorem dX2_clearWorks_19 : decode cX2_clearWorks 19 = .ok (.dconst 0, 1) := by decide +kernel
theorem dX2_clearWorks_20 : decode cX2_clearWorks 20 = .ok (.dcmp .l, 1) := by decide +kernel
theorem dX2_clearWorks_21 : decode cX2_clearWorks 21 = .ok (.ifCond .le 5, 3) := by decide +kernel
theorem dX2_clearWorks_24 : decode cX2_clearWorks 24 = .ok (.iconst 1, 1) := by decide +kernel
theorem dX2_clearWorks_25 : decode cX2_clearWorks 25 = .ok (.istore_n 1, 1) := by decide +kernel
theorem dX2_clearWorks_26 : decode cX2_clearWorks 26 = .ok (.aload_n 0, 1) := by decide +kernel
theorem dX2_clearWorks_27 : decode cX2_clearWorks 27 = .ok (.getfield 50, 3) := by decide +kernel
theorem dX2_clearWorks_30 : decode cX2_clearWorks 30 = .ok (.iload_n 2, 1) := by decide +kernel
theorem dX2_clearWorks_31 : decode cX2_clearWorks 31 = .ok (.dconst 0, 1) := by decide +kernel
theorem dX2_clearWorks_32 : decode cX2_clearWorks 32 = .ok (.dastore, 1) := by decide +kernel
theorem dX2_clearWorks_33 : decode cX2_clearWorks 33 = .ok (.iinc 2 1, 3) := by decide +kernel
theorem dX2_clearWorks_36 : decode cX2_clearWorks 36 = .ok (.goto (-32), 3) := by decide +kernel
theorem dX2_clearWorks_39 : decode cX2_clearWorks 39 = .ok (.iload_n 1, 1) := by decide +kernel
theorem dX2_clearWorks_40 : decode cX2_clearWorks 40 = .ok (.ifCond .eq 14, 3) := by decide +kernel
theorem dX2_clearWorks_43 : decode cX2_clearWorks 43 = .ok (.aload_n 0, 1) := by decide +kernel
theorem dX2_clearWorks_44 : decode cX2_clearWorks 44 = .ok (.ldc 134, 2) := by decide +kernel
theorem dX2_clearWorks_46 : decode cX2_clearWorks 46 = .ok (.aload_n 0, 1) := by decide +kernel
theorem dX2_clearWorks_47 : decode cX2_clearWorks 47 = .ok (.getfield 20, 3) := by decide +kernel
theorem dX2_clearWorks_50 : decode cX2_clearWorks 50 = .ok (.fmul, 1) := by decide +kernel
theorem dX2_clearWorks_51 : decode cX2_clearWorks 51 = .ok (.putfield 20, 3) := by decide +kernel
theorem dX2_clearWorks_54 : decode cX2_clearWorks 54 = .ok (.return_, 1) := by decide +kernel
theorem dX3_init_0 : decode cX3_init 0 = .ok (.aload_n 0, 1) := by decide +kernel
theorem dX3_init_1 : decode cX3_init 1 = .ok (.invokespecial 1, 3) := by decide +kernel
theorem dX3_init_4 : decode cX3_init 4 = .ok (.aload_n 0, 1) := by decide +kernel
theorem dX3_init_5 : decode cX3_init 5 = .ok (.iconst 0, 1) := by decide +kernel
theorem dX3_init_6 : decode cX3_init 6 = .ok (.putfield 7, 3) := by decide +kernel
theorem dX3_init_9 : decode cX3_init 9 = .ok (.aload_n 0, 1) := by decide +kernel
theorem dX3_init_10 : decode cX3_init 10 = .ok (.iload_n 1, 1) := by decide +kernel
theorem dX3_init_11 : decode cX3_init 11 = .ok (.putfield 13, 3) := by decide +kernel
theorem dX3_init_14 : decode cX3_init 14 = .ok (.aload_n 0, 1) := by decide +kernel
theorem dX3_init_15 : decode cX3_init 15 = .ok (.iload_n 2, 1) := by decide +kernel
theorem dX3_init_16 : decode cX3_init 16 = .ok (.putfield 17, 3) := by decide +kernel
theorem dX3_init_19 : decode cX3_init 19 = .ok (.aload_n 0, 1) := by decide +kernel
theorem dX3_init_20 : decode cX3_init 20 = .ok (.iload_n 3, 1) := by decide +kernel
theorem dX3_init_21 : decode cX3_init 21 = .ok (.putfield 20, 3) := by decide +kernel
theorem dX3_init_24 : decode cX3_init 24 = .ok (.aload_n 0, 1) := by decide +kernel
theorem dX3_init_25 : decode cX3_init 25 = .ok (.iload 4, 2) := by decide +kernel
theorem dX3_init_27 : decode cX3_init 27 = .ok (.putfield 23, 3) := by decide +kernel
theorem dX3_init_30 : decode cX3_init 30 = .ok (.return_, 1) := by decide +kernel
theorem dX3_worthOf_0 : decode cX3_worthOf 0 = .ok (.aload_n 1, 1) := by decide +kernel
theorem dX3_worthOf_1 : decode cX3_worthOf 1 = .ok (.getfield 26, 3) := by decide +kernel
theorem dX3_worthOf_4 : decode cX3_worthOf 4 = .ok (.ifCond .ne 10, 3) := by decide +kernel
theorem dX3_worthOf_7 : decode cX3_worthOf 7 = .ok (.aload_n 0, 1) := by decide +kernel
theorem dX3_worthOf_8 : decode cX3_worthOf 8 = .ok (.getfield 23, 3) := by decide +kernel
theorem dX3_worthOf_11 : decode cX3_worthOf 11 = .ok (.goto 9, 3) := by decide +kernel
theorem dX3_worthOf_14 : decode cX3_worthOf 14 = .ok (.aload_n 0, 1) := by decide +kernel
theorem dX3_worthOf_15 : decode cX3_worthOf 15 = .ok (.getfield 23, 3) := by decide +kernel
theorem dX3_worthOf_18 : decode cX3_worthOf 18 = .ok (.iconst 2, 1) := by decide +kernel
theorem dX3_worthOf_19 : decode cX3_worthOf 19 = .ok (.idiv, 1) := by decide +kernel
theorem dX3_worthOf_20 : decode cX3_worthOf 20 = .ok (.istore_n 3, 1) := by decide +kernel
theorem dX3_worthOf_21 : decode cX3_worthOf 21 = .ok (.iconst 0, 1) := by decide +kernel
theorem dX3_worthOf_22 : decode cX3_worthOf 22 = .ok (.iload_n 2, 1) := by decide +kernel
theorem dX3_worthOf_23 : decode cX3_worthOf 23 = .ok (.aload_n 0, 1) := by decide +kernel
theorem dX3_worthOf_24 : decode cX3_worthOf 24 = .ok (.getfield 20, 3) := by decide +kernel
theorem dX3_worthOf_27 : decode cX3_worthOf 27 = .ok (.isub, 1) := by decide +kernel
theorem dX3_worthOf_28 : decode cX3_worthOf 28 = .ok (.invokestatic 31, 3) := by decide +kernel
theorem dX3_worthOf_31 : decode cX3_worthOf 31 = .ok (.istore 4, 2) := by decide +kernel
theorem dX3_worthOf_33 : decode cX3_worthOf 33 = .ok (.iconst 0, 1) := by decide +kernel
theorem dX3_worthOf_34 : decode cX3_worthOf 34 = .ok (.iload_n 3, 1) := by decide +kernel
theorem dX3_worthOf_35 : decode cX3_worthOf 35 = .ok (.iload 4, 2) := by decide +kernel
theorem dX3_worthOf_37 : decode cX3_worthOf 37 = .ok (.isub, 1) := by decide +kernel
theorem dX3_worthOf_38 : decode cX3_worthOf 38 = .ok (.invokestatic 31, 3) := by decide +kernel
theorem dX3_worthOf_41 : decode cX3_worthOf 41 = .ok (.ireturn, 1) := by decide +kernel
theorem dX4_init_0 : decode cX4_init 0 = .ok (.aload_n 0, 1) := by decide +kernel
theorem dX4_init_1 : decode cX4_init 1 = .ok (.invokespecial 3, 3) := by decide +kernel
theorem dX4_init_4 : decode cX4_init 4 = .ok (.aload_n 0, 1) := by decide +kernel
theorem dX4_init_5 : decode cX4_init 5 = .ok (.aconst_null, 1) := by decide +kernel
theorem dX4_init_6 : decode cX4_init 6 = .ok (.putfield 9, 3) := by decide +kernel
theorem dX4_init_9 : decode cX4_init 9 = .ok (.aload_n 0, 1) := by decide +kernel
theorem dX4_init_10 : decode cX4_init 10 = .ok (.iconst 0, 1) := by decide +kernel
theorem dX4_init_11 : decode cX4_init 11 = .ok (.putfield 15, 3) := by decide +kernel
theorem dX4_init_14 : decode cX4_init 14 = .ok (.aload_n 0, 1) := by decide +kernel
theorem dX4_init_15 : decode cX4_init 15 = .ok (.ldc 19, 2) := by decide +kernel
theorem dX4_init_17 : decode cX4_init 17 = .ok (.putfield 20, 3) := by decide +kernel
theorem dX4_init_20 : decode cX4_init 20 = .ok (.aload_n 0, 1) := by decide +kernel
theorem dX4_init_21 : decode cX4_init 21 = .ok (.iconst 0, 1) := by decide +kernel
theorem dX4_init_22 : decode cX4_init 22 = .ok (.putfield 24, 3) := by decide +kernel
theorem dX4_init_25 : decode cX4_init 25 = .ok (.aload_n 0, 1) := by decide +kernel
theorem dX4_init_26 : decode cX4_init 26 = .ok (.iconst 0, 1) := by decide +kernel
theorem dX4_init_27 : decode cX4_init 27 = .ok (.putfield 28, 3) := by decide +kernel
theorem dX4_init_30 : decode cX4_init 30 = .ok (.aload_n 0, 1) := by decide +kernel
theorem dX4_init_31 : decode cX4_init 31 = .ok (.iconst 0, 1) := by decide +kernel
theorem dX4_init_32 : decode cX4_init 32 = .ok (.putfield 31, 3) := by decide +kernel
theorem dX4_init_35 : decode cX4_init 35 = .ok (.aload_n 0, 1) := by decide +kernel
theorem dX4_init_36 : decode cX4_init 36 = .ok (.iconst (-1), 1) := by decide +kernel
theorem dX4_init_37 : decode cX4_init 37 = .ok (.putfield 34, 3) := by decide +kernel
theorem dX4_init_40 : decode cX4_init 40 = .ok (.aload_n 0, 1) := by decide +kernel
theorem dX4_init_41 : decode cX4_init 41 = .ok (.iconst (-1), 1) := by decide +kernel
theorem dX4_init_42 : decode cX4_init 42 = .ok (.putfield 37, 3) := by decide +kernel
theorem dX4_init_45 : decode cX4_init 45 = .ok (.aload_n 0, 1) := by decide +kernel
theorem dX4_init_46 : decode cX4_init 46 = .ok (.aload_n 1, 1) := by decide +kernel
theorem dX4_init_47 : decode cX4_init 47 = .ok (.putfield 40, 3) := by decide +kernel
theorem dX4_init_50 : decode cX4_init 50 = .ok (.aload_n 0, 1) := by decide +kernel
theorem dX4_init_51 : decode cX4_init 51 = .ok (.iload_n 2, 1) := by decide +kernel
theorem dX4_init_52 : decode cX4_init 52 = .ok (.putfield 44, 3) := by decide +kernel
theorem dX4_init_55 : decode cX4_init 55 = .ok (.aload_n 0, 1) := by decide +kernel
theorem dX4_init_56 : decode cX4_init 56 = .ok (.iload_n 3, 1) := by decide +kernel
theorem dX4_init_57 : decode cX4_init 57 = .ok (.putfield 47, 3) := by decide +kernel
theorem dX4_init_60 : decode cX4_init 60 = .ok (.aload_n 0, 1) := by decide +kernel
theorem dX4_init_61 : decode cX4_init 61 = .ok (.iload 4, 2) := by decide +kernel
theorem dX4_init_63 : decode cX4_init 63 = .ok (.putfield 50, 3) := by decide +kernel
theorem dX4_init_66 : decode cX4_init 66 = .ok (.return_, 1) := by decide +kernel
theorem dX4_glazeNumber_0 : decode cX4_glazeNumber 0 = .ok (.aload_n 0, 1) := by decide +kernel
theorem dX4_glazeNumber_1 : decode cX4_glazeNumber 1 = .ok (.getfield 9, 3) := by decide +kernel
theorem dX4_glazeNumber_4 : decode cX4_glazeNumber 4 = .ok (.ifnonnull 7, 3) := by decide +kernel
theorem dX4_glazeNumber_7 : decode cX4_glazeNumber 7 = .ok (.iconst (-1), 1) := by decide +kernel
theorem dX4_glazeNumber_8 : decode cX4_glazeNumber 8 = .ok (.goto 10, 3) := by decide +kernel
theorem dX4_glazeNumber_11 : decode cX4_glazeNumber 11 = .ok (.aload_n 0, 1) := by decide +kernel
theorem dX4_glazeNumber_12 : decode cX4_glazeNumber 12 = .ok (.getfield 9, 3) := by decide +kernel
theorem dX4_glazeNumber_15 : decode cX4_glazeNumber 15 = .ok (.getfield 53, 3) := by decide +kernel
theorem dX4_glazeNumber_18 : decode cX4_glazeNumber 18 = .ok (.ireturn, 1) := by decide +kernel
theorem dX4_colour_0 : decode cX4_colour 0 = .ok (.aload_n 0, 1) := by decide +kernel
theorem dX4_colour_1 : decode cX4_colour 1 = .ok (.getfield 9, 3) := by decide +kernel
theorem dX4_colour_4 : decode cX4_colour 4 = .ok (.ifnull 20, 3) := by decide +kernel
theorem dX4_colour_7 : decode cX4_colour 7 = .ok (.aload_n 0, 1) := by decide +kernel
theorem dX4_colour_8 : decode cX4_colour 8 = .ok (.getfield 15, 3) := by decide +kernel
theorem dX4_colour_11 : decode cX4_colour 11 = .ok (.iconst 4, 1) := by decide +kernel
theorem dX4_colour_12 : decode cX4_colour 12 = .ok (.if_icmp .eq 14, 3) := by decide +kernel
theorem dX4_colour_15 : decode cX4_colour 15 = .ok (.aload_n 0, 1) := by decide +kernel
theorem dX4_colour_16 : decode cX4_colour 16 = .ok (.getfield 15, 3) := by decide +kernel
theorem dX4_colour_19 : decode cX4_colour 19 = .ok (.bipush 6, 2) := by decide +kernel
theorem dX4_colour_21 : decode cX4_colour 21 = .ok (.if_icmp .eq 5, 3) := by decide +kernel
theorem dX4_colour_24 : decode cX4_colour 24 = .ok (.iconst (-1), 1) := by decide +kernel
theorem dX4_colour_25 : decode cX4_colour 25 = .ok (.ireturn, 1) := by decide +kernel
theorem dX4_colour_26 : decode cX4_colour 26 = .ok (.aload_n 0, 1) := by decide +kernel
theorem dX4_colour_27 : decode cX4_colour 27 = .ok (.getfield 9, 3) := by decide +kernel
theorem dX4_colour_30 : decode cX4_colour 30 = .ok (.getfield 58, 3) := by decide +kernel
theorem dX4_colour_33 : decode cX4_colour 33 = .ok (.iconst 5, 1) := by decide +kernel
theorem dX4_colour_34 : decode cX4_colour 34 = .ok (.if_icmp .ge 5, 3) := by decide +kernel
theorem dX4_colour_37 : decode cX4_colour 37 = .ok (.iconst 0, 1) := by decide +kernel
theorem dX4_colour_38 : decode cX4_colour 38 = .ok (.ireturn, 1) := by decide +kernel
theorem dX4_colour_39 : decode cX4_colour 39 = .ok (.aload_n 0, 1) := by decide +kernel
theorem dX4_colour_40 : decode cX4_colour 40 = .ok (.getfield 28, 3) := by decide +kernel
theorem dX4_colour_43 : decode cX4_colour 43 = .ok (.iconst 4, 1) := by decide +kernel
theorem dX4_colour_44 : decode cX4_colour 44 = .ok (.if_icmp .lt 7, 3) := by decide +kernel
theorem dX4_colour_47 : decode cX4_colour 47 = .ok (.iconst 1, 1) := by decide +kernel
theorem dX4_colour_48 : decode cX4_colour 48 = .ok (.goto 4, 3) := by decide +kernel
theorem dX4_colour_51 : decode cX4_colour 51 = .ok (.iconst 2, 1) := by decide +kernel
theorem dX4_colour_52 : decode cX4_colour 52 = .ok (.ireturn, 1) := by decide +kernel
theorem dX4_canBeSet_0 : decode cX4_canBeSet 0 = .ok (.aload_n 0, 1) := by decide +kernel
theorem dX4_canBeSet_1 : decode cX4_canBeSet 1 = .ok (.getfield 34, 3) := by decide +kernel
theorem dX4_canBeSet_4 : decode cX4_canBeSet 4 = .ok (.iconst (-1), 1) := by decide +kernel
theorem dX4_canBeSet_5 : decode cX4_canBeSet 5 = .ok (.if_icmp .ne 30, 3) := by decide +kernel
theorem dX4_canBeSet_8 : decode cX4_canBeSet 8 = .ok (.aload_n 0, 1) := by decide +kernel
theorem dX4_canBeSet_9 : decode cX4_canBeSet 9 = .ok (.getfield 15, 3) := by decide +kernel
theorem dX4_canBeSet_12 : decode cX4_canBeSet 12 = .ok (.ifCond .eq 19, 3) := by decide +kernel
theorem dX4_canBeSet_15 : decode cX4_canBeSet 15 = .ok (.aload_n 0, 1) := by decide +kernel
theorem dX4_canBeSet_16 : decode cX4_canBeSet 16 = .ok (.getfield 15, 3) := by decide +kernel
theorem dX4_canBeSet_19 : decode cX4_canBeSet 19 = .ok (.iconst 1, 1) := by decide +kernel
theorem dX4_canBeSet_20 : decode cX4_canBeSet 20 = .ok (.if_icmp .eq 11, 3) := by decide +kernel
theorem dX4_canBeSet_23 : decode cX4_canBeSet 23 = .ok (.aload_n 0, 1) := by decide +kernel
theorem dX4_canBeSet_24 : decode cX4_canBeSet 24 = .ok (.getfield 15, 3) := by decide +kernel
theorem dX4_canBeSet_27 : decode cX4_canBeSet 27 = .ok (.iconst 3, 1) := by decide +kernel
theorem dX4_canBeSet_28 : decode cX4_canBeSet 28 = .ok (.if_icmp .ne 7, 3) := by decide +kernel
theorem dX4_canBeSet_31 : decode cX4_canBeSet 31 = .ok (.iconst 1, 1) := by decide +kernel
theorem dX4_canBeSet_32 : decode cX4_canBeSet 32 = .ok (.goto 4, 3) := by decide +kernel
theorem dX4_canBeSet_35 : decode cX4_canBeSet 35 = .ok (.iconst 0, 1) := by decide +kernel
theorem dX4_canBeSet_36 : decode cX4_canBeSet 36 = .ok (.ireturn, 1) := by decide +kernel
theorem dX4_isReady_0 : decode cX4_isReady 0 = .ok (.aload_n 0, 1) := by decide +kernel
theorem dX4_isReady_1 : decode cX4_isReady 1 = .ok (.invokevirtual 61, 3) := by decide +kernel
theorem dX4_isReady_4 : decode cX4_isReady 4 = .ok (.ifCond .eq 14, 3) := by decide +kernel
theorem dX4_isReady_7 : decode cX4_isReady 7 = .ok (.aload_n 0, 1) := by decide +kernel
theorem dX4_isReady_8 : decode cX4_isReady 8 = .ok (.getfield 15, 3) := by decide +kernel
theorem dX4_isReady_11 : decode cX4_isReady 11 = .ok (.ifCond .eq 7, 3) := by decide +kernel
theorem dX4_isReady_14 : decode cX4_isReady 14 = .ok (.iconst 1, 1) := by decide +kernel
theorem dX4_isReady_15 : decode cX4_isReady 15 = .ok (.goto 4, 3) := by decide +kernel
theorem dX4_isReady_18 : decode cX4_isReady 18 = .ok (.iconst 0, 1) := by decide +kernel
theorem dX4_isReady_19 : decode cX4_isReady 19 = .ok (.ireturn, 1) := by decide +kernel
theorem dX4_leaveShelf_0 : decode cX4_leaveShelf 0 = .ok (.aload_n 0, 1) := by decide +kernel
theorem dX4_leaveShelf_1 : decode cX4_leaveShelf 1 = .ok (.iconst (-1), 1) := by decide +kernel
theorem dX4_leaveShelf_2 : decode cX4_leaveShelf 2 = .ok (.putfield 34, 3) := by decide +kernel
theorem dX4_leaveShelf_5 : decode cX4_leaveShelf 5 = .ok (.aload_n 0, 1) := by decide +kernel
theorem dX4_leaveShelf_6 : decode cX4_leaveShelf 6 = .ok (.iconst (-1), 1) := by decide +kernel
theorem dX4_leaveShelf_7 : decode cX4_leaveShelf 7 = .ok (.putfield 37, 3) := by decide +kernel
theorem dX4_leaveShelf_10 : decode cX4_leaveShelf 10 = .ok (.return_, 1) := by decide +kernel
theorem dX4_loseWater_0 : decode cX4_loseWater 0 = .ok (.aload_n 0, 1) := by decide +kernel
theorem dX4_loseWater_1 : decode cX4_loseWater 1 = .ok (.getfield 15, 3) := by decide +kernel
theorem dX4_loseWater_4 : decode cX4_loseWater 4 = .ok (.ifCond .ne 11, 3) := by decide +kernel
theorem dX4_loseWater_7 : decode cX4_loseWater 7 = .ok (.aload_n 0, 1) := by decide +kernel
theorem dX4_loseWater_8 : decode cX4_loseWater 8 = .ok (.getfield 34, 3) := by decide +kernel
theorem dX4_loseWater_11 : decode cX4_loseWater 11 = .ok (.iconst (-1), 1) := by decide +kernel
theorem dX4_loseWater_12 : decode cX4_loseWater 12 = .ok (.if_icmp .eq 4, 3) := by decide +kernel
theorem dX4_loseWater_15 : decode cX4_loseWater 15 = .ok (.return_, 1) := by decide +kernel
theorem dX4_loseWater_16 : decode cX4_loseWater 16 = .ok (.iload_n 1, 1) := by decide +kernel
theorem dX4_loseWater_17 : decode cX4_loseWater 17 = .ok (.i2f, 1) := by decide +kernel
theorem dX4_loseWater_18 : decode cX4_loseWater 18 = .ok (.fconst 2, 1) := by decide +kernel
theorem dX4_loseWater_19 : decode cX4_loseWater 19 = .ok (.fdiv, 1) := by decide +kernel
theorem dX4_loseWater_20 : decode cX4_loseWater 20 = .ok (.aload_n 0, 1) := by decide +kernel
theorem dX4_loseWater_21 : decode cX4_loseWater 21 = .ok (.getfield 50, 3) := by decide +kernel
theorem dX4_loseWater_24 : decode cX4_loseWater 24 = .ok (.i2f, 1) := by decide +kernel
theorem dX4_loseWater_25 : decode cX4_loseWater 25 = .ok (.fdiv, 1) := by decide +kernel
theorem dX4_loseWater_26 : decode cX4_loseWater 26 = .ok (.fstore_n 2, 1) := by decide +kernel
theorem dX4_loseWater_27 : decode cX4_loseWater 27 = .ok (.aload_n 0, 1) := by decide +kernel
theorem dX4_loseWater_28 : decode cX4_loseWater 28 = .ok (.getfield 24, 3) := by decide +kernel
theorem dX4_loseWater_31 : decode cX4_loseWater 31 = .ok (.ifCond .eq 7, 3) := by decide +kernel
theorem dX4_loseWater_34 : decode cX4_loseWater 34 = .ok (.fload_n 2, 1) := by decide +kernel
theorem dX4_loseWater_35 : decode cX4_loseWater 35 = .ok (.fconst 2, 1) := by decide +kernel
theorem dX4_loseWater_36 : decode cX4_loseWater 36 = .ok (.fdiv, 1) := by decide +kernel
theorem dX4_loseWater_37 : decode cX4_loseWater 37 = .ok (.fstore_n 2, 1) := by decide +kernel
theorem dX4_loseWater_38 : decode cX4_loseWater 38 = .ok (.fload_n 2, 1) := by decide +kernel
theorem dX4_loseWater_39 : decode cX4_loseWater 39 = .ok (.aload_n 0, 1) := by decide +kernel
theorem dX4_loseWater_40 : decode cX4_loseWater 40 = .ok (.getfield 20, 3) := by decide +kernel
theorem dX4_loseWater_43 : decode cX4_loseWater 43 = .ok (.fcmp .l, 1) := by decide +kernel
theorem dX4_loseWater_44 : decode cX4_loseWater 44 = .ok (.ifCond .le 8, 3) := by decide +kernel
theorem dX4_loseWater_47 : decode cX4_loseWater 47 = .ok (.aload_n 0, 1) := by decide +kernel
theorem dX4_loseWater_48 : decode cX4_loseWater 48 = .ok (.getfield 20, 3) := by decide +kernel
theorem dX4_loseWater_51 : decode cX4_loseWater 51 = .ok (.fstore_n 2, 1) := by decide +kernel
theorem dX4_loseWater_52 : decode cX4_loseWater 52 = .ok (.aload_n 0, 1) := by decide +kernel
theorem dX4_loseWater_53 : decode cX4_loseWater 53 = .ok (.aload_n 0, 1) := by decide +kernel
theorem dX4_loseWater_54 : decode cX4_loseWater 54 = .ok (.getfield 20, 3) := by decide +kernel
theorem dX4_loseWater_57 : decode cX4_loseWater 57 = .ok (.fload_n 2, 1) := by decide +kernel
theorem dX4_loseWater_58 : decode cX4_loseWater 58 = .ok (.fsub, 1) := by decide +kernel
theorem dX4_loseWater_59 : decode cX4_loseWater 59 = .ok (.putfield 20, 3) := by decide +kernel
theorem dX4_loseWater_62 : decode cX4_loseWater 62 = .ok (.fload_n 2, 1) := by decide +kernel
theorem dX4_loseWater_63 : decode cX4_loseWater 63 = .ok (.ldc 65, 2) := by decide +kernel
theorem dX4_loseWater_65 : decode cX4_loseWater 65 = .ok (.fcmp .l, 1) := by decide +kernel
theorem dX4_loseWater_66 : decode cX4_loseWater 66 = .ok (.ifCond .le 13, 3) := by decide +kernel
theorem dX4_loseWater_69 : decode cX4_loseWater 69 = .ok (.aload_n 0, 1) := by decide +kernel
theorem dX4_loseWater_70 : decode cX4_loseWater 70 = .ok (.dup, 1) := by decide +kernel
theorem dX4_loseWater_71 : decode cX4_loseWater 71 = .ok (.getfield 31, 3) := by decide +kernel
theorem dX4_loseWater_74 : decode cX4_loseWater 74 = .ok (.iconst 2, 1) := by decide +kernel
theorem dX4_loseWater_75 : decode cX4_loseWater 75 = .ok (.ior, 1) := by decide +kernel
theorem dX4_loseWater_76 : decode cX4_loseWater 76 = .ok (.putfield 31, 3) := by decide +kernel
theorem dX4_loseWater_79 : decode cX4_loseWater 79 = .ok (.aload_n 0, 1) := by decide +kernel
theorem dX4_loseWater_80 : decode cX4_loseWater 80 = .ok (.getfield 20, 3) := by decide +kernel
theorem dX4_loseWater_83 : decode cX4_loseWater 83 = .ok (.ldc 66, 2) := by decide +kernel
theorem dX4_loseWater_85 : decode cX4_loseWater 85 = .ok (.fcmp .g, 1) := by decide +kernel
theorem dX4_loseWater_86 : decode cX4_loseWater 86 = .ok (.ifCond .gt 8, 3) := by decide +kernel
theorem dX4_loseWater_89 : decode cX4_loseWater 89 = .ok (.aload_n 0, 1) := by decide +kernel
theorem dX4_loseWater_90 : decode cX4_loseWater 90 = .ok (.iconst 1, 1) := by decide +kernel
theorem dX4_loseWater_91 : decode cX4_loseWater 91 = .ok (.putfield 15, 3) := by decide +kernel
theorem dX4_loseWater_94 : decode cX4_loseWater 94 = .ok (.return_, 1) := by decide +kernel
theorem dX4_feel_0 : decode cX4_feel 0 = .ok (.aload_n 0, 1) := by decide +kernel
theorem dX4_feel_1 : decode cX4_feel 1 = .ok (.getfield 15, 3) := by decide +kernel
theorem dX4_feel_4 : decode cX4_feel 4 = .ok (.iconst 5, 1) := by decide +kernel
theorem dX4_feel_5 : decode cX4_feel 5 = .ok (.if_icmp .ne 4, 3) := by decide +kernel
theorem dX4_feel_8 : decode cX4_feel 8 = .ok (.return_, 1) := by decide +kernel
theorem dX4_feel_9 : decode cX4_feel 9 = .ok (.aload_n 0, 1) := by decide +kernel
theorem dX4_feel_10 : decode cX4_feel 10 = .ok (.getfield 15, 3) := by decide +kernel
theorem dX4_feel_13 : decode cX4_feel 13 = .ok (.ifCond .ne 27, 3) := by decide +kernel
theorem dX4_feel_16 : decode cX4_feel 16 = .ok (.dload_n 3, 1) := by decide +kernel
theorem dX4_feel_17 : decode cX4_feel 17 = .ok (.ldc2_w 67, 3) := by decide +kernel
theorem dX4_feel_20 : decode cX4_feel 20 = .ok (.dcmp .l, 1) := by decide +kernel
theorem dX4_feel_21 : decode cX4_feel 21 = .ok (.ifCond .le 19, 3) := by decide +kernel
theorem dX4_feel_24 : decode cX4_feel 24 = .ok (.aload_n 0, 1) := by decide +kernel
theorem dX4_feel_25 : decode cX4_feel 25 = .ok (.dup, 1) := by decide +kernel
theorem dX4_feel_26 : decode cX4_feel 26 = .ok (.getfield 31, 3) := by decide +kernel
theorem dX4_feel_29 : decode cX4_feel 29 = .ok (.iconst 1, 1) := by decide +kernel
theorem dX4_feel_30 : decode cX4_feel 30 = .ok (.ior, 1) := by decide +kernel
theorem dX4_feel_31 : decode cX4_feel 31 = .ok (.putfield 31, 3) := by decide +kernel
theorem dX4_feel_34 : decode cX4_feel 34 = .ok (.aload_n 0, 1) := by decide +kernel
theorem dX4_feel_35 : decode cX4_feel 35 = .ok (.iconst 5, 1) := by decide +kernel
theorem dX4_feel_36 : decode cX4_feel 36 = .ok (.putfield 15, 3) := by decide +kernel
theorem dX4_feel_39 : decode cX4_feel 39 = .ok (.return_, 1) := by decide +kernel
theorem dX4_feel_40 : decode cX4_feel 40 = .ok (.dload_n 3, 1) := by decide +kernel
theorem dX4_feel_41 : decode cX4_feel 41 = .ok (.dload_n 1, 1) := by decide +kernel
theorem dX4_feel_42 : decode cX4_feel 42 = .ok (.dcmp .g, 1) := by decide +kernel
theorem dX4_feel_43 : decode cX4_feel 43 = .ok (.ifCond .ge 9, 3) := by decide +kernel
theorem dX4_feel_46 : decode cX4_feel 46 = .ok (.dload_n 1, 1) := by decide +kernel
theorem dX4_feel_47 : decode cX4_feel 47 = .ok (.dload_n 3, 1) := by decide +kernel
theorem dX4_feel_48 : decode cX4_feel 48 = .ok (.dsub, 1) := by decide +kernel
theorem dX4_feel_49 : decode cX4_feel 49 = .ok (.goto 6, 3) := by decide +kernel
theorem dX4_feel_52 : decode cX4_feel 52 = .ok (.dload_n 3, 1) := by decide +kernel
theorem dX4_feel_53 : decode cX4_feel 53 = .ok (.dload_n 1, 1) := by decide +kernel
theorem dX4_feel_54 : decode cX4_feel 54 = .ok (.dsub, 1) := by decide +kernel
theorem dX4_feel_55 : decode cX4_feel 55 = .ok (.dstore 6, 2) := by decide +kernel
theorem dX4_feel_57 : decode cX4_feel 57 = .ok (.dload_n 1, 1) := by decide +kernel
theorem dX4_feel_58 : decode cX4_feel 58 = .ok (.ldc2_w 69, 3) := by decide +kernel
theorem dX4_feel_61 : decode cX4_feel 61 = .ok (.dcmp .g, 1) := by decide +kernel
theorem dX4_feel_62 : decode cX4_feel 62 = .ok (.ifCond .ge 11, 3) := by decide +kernel
theorem dX4_feel_65 : decode cX4_feel 65 = .ok (.dload_n 3, 1) := by decide +kernel
theorem dX4_feel_66 : decode cX4_feel 66 = .ok (.ldc2_w 69, 3) := by decide +kernel
theorem dX4_feel_69 : decode cX4_feel 69 = .ok (.dcmp .l, 1) := by decide +kernel
theorem dX4_feel_70 : decode cX4_feel 70 = .ok (.ifCond .ge 19, 3) := by decide +kernel
theorem dX4_feel_73 : decode cX4_feel 73 = .ok (.dload_n 1, 1) := by decide +kernel
theorem dX4_feel_74 : decode cX4_feel 74 = .ok (.ldc2_w 69, 3) := by decide +kernel
theorem dX4_feel_77 : decode cX4_feel 77 = .ok (.dcmp .l, 1) := by decide +kernel
theorem dX4_feel_78 : decode cX4_feel 78 = .ok (.ifCond .le 15, 3) := by decide +kernel
theorem dX4_feel_81 : decode cX4_feel 81 = .ok (.dload_n 3, 1) := by decide +kernel
theorem dX4_feel_82 : decode cX4_feel 82 = .ok (.ldc2_w 69, 3) := by decide +kernel
theorem dX4_feel_85 : decode cX4_feel 85 = .ok (.dcmp .g, 1) := by decide +kernel
theorem dX4_feel_86 : decode cX4_feel 86 = .ok (.ifCond .gt 7, 3) := by decide +kernel
theorem dX4_feel_89 : decode cX4_feel 89 = .ok (.iconst 1, 1) := by decide +kernel
theorem dX4_feel_90 : decode cX4_feel 90 = .ok (.goto 4, 3) := by decide +kernel
theorem dX4_feel_93 : decode cX4_feel 93 = .ok (.iconst 0, 1) := by decide +kernel
theorem dX4_feel_94 : decode cX4_feel 94 = .ok (.istore 8, 2) := by decide +kernel
theorem dX4_feel_96 : decode cX4_feel 96 = .ok (.iload 8, 2) := by decide +kernel
theorem dX4_feel_98 : decode cX4_feel 98 = .ok (.ifCond .eq 28, 3) := by decide +kernel
theorem dX4_feel_101 : decode cX4_feel 101 = .ok (.dload 6, 2) := by decide +kernel
theorem dX4_feel_103 : decode cX4_feel 103 = .ok (.ldc2_w 71, 3) := by decide +kernel
theorem dX4_feel_106 : decode cX4_feel 106 = .ok (.aload_n 0, 1) := by decide +kernel
theorem dX4_feel_107 : decode cX4_feel 107 = .ok (.getfield 50, 3) := by decide +kernel
theorem dX4_feel_110 : decode cX4_feel 110 = .ok (.i2d, 1) := by decide +kernel
theorem dX4_feel_111 : decode cX4_feel 111 = .ok (.ddiv, 1) := by decide +kernel
theorem dX4_feel_112 : decode cX4_feel 112 = .ok (.dcmp .l, 1) := by decide +kernel
theorem dX4_feel_113 : decode cX4_feel 113 = .ok (.ifCond .le 13, 3) := by decide +kernel
theorem dX4_feel_116 : decode cX4_feel 116 = .ok (.aload_n 0, 1) := by decide +kernel
theorem dX4_feel_117 : decode cX4_feel 117 = .ok (.dup, 1) := by decide +kernel
theorem dX4_feel_118 : decode cX4_feel 118 = .ok (.getfield 31, 3) := by decide +kernel
theorem dX4_feel_121 : decode cX4_feel 121 = .ok (.iconst 2, 1) := by decide +kernel
theorem dX4_feel_122 : decode cX4_feel 122 = .ok (.ior, 1) := by decide +kernel
theorem dX4_feel_123 : decode cX4_feel 123 = .ok (.putfield 31, 3) := by decide +kernel
theorem dX4_feel_126 : decode cX4_feel 126 = .ok (.iload 5, 2) := by decide +kernel
theorem dX4_feel_128 : decode cX4_feel 128 = .ok (.ifCond .eq 21, 3) := by decide +kernel
theorem dX4_feel_131 : decode cX4_feel 131 = .ok (.dload_n 3, 1) := by decide +kernel
theorem dX4_feel_132 : decode cX4_feel 132 = .ok (.ldc2_w 73, 3) := by decide +kernel
theorem dX4_feel_135 : decode cX4_feel 135 = .ok (.dcmp .l, 1) := by decide +kernel
theorem dX4_feel_136 : decode cX4_feel 136 = .ok (.ifCond .lt 13, 3) := by decide +kernel
theorem dX4_feel_139 : decode cX4_feel 139 = .ok (.aload_n 0, 1) := by decide +kernel
theorem dX4_feel_140 : decode cX4_feel 140 = .ok (.dup, 1) := by decide +kernel
theorem dX4_feel_141 : decode cX4_feel 141 = .ok (.getfield 28, 3) := by decide +kernel
theorem dX4_feel_144 : decode cX4_feel 144 = .ok (.iconst 1, 1) := by decide +kernel
theorem dX4_feel_145 : decode cX4_feel 145 = .ok (.iadd, 1) := by decide +kernel
theorem dX4_feel_146 : decode cX4_feel 146 = .ok (.putfield 28, 3) := by decide +kernel
theorem dX4_feel_149 : decode cX4_feel 149 = .ok (.return_, 1) := by decide +kernel
theorem dX4_fire_0 : decode cX4_fire 0 = .ok (.aload_n 0, 1) := by decide +kernel
theorem dX4_fire_1 : decode cX4_fire 1 = .ok (.getfield 15, 3) := by decide +kernel
theorem dX4_fire_4 : decode cX4_fire 4 = .ok (.iconst 1, 1) := by decide +kernel
theorem dX4_fire_5 : decode cX4_fire 5 = .ok (.if_icmp .ne 8, 3) := by decide +kernel
theorem dX4_fire_8 : decode cX4_fire 8 = .ok (.iload_n 1, 1) := by decide +kernel
theorem dX4_fire_9 : decode cX4_fire 9 = .ok (.iconst 2, 1) := by decide +kernel
theorem dX4_fire_10 : decode cX4_fire 10 = .ok (.if_icmp .ge 16, 3) := by decide +kernel
theorem dX4_fire_13 : decode cX4_fire 13 = .ok (.aload_n 0, 1) := by decide +kernel
theorem dX4_fire_14 : decode cX4_fire 14 = .ok (.getfield 15, 3) := by decide +kernel
theorem dX4_fire_17 : decode cX4_fire 17 = .ok (.iconst 3, 1) := by decide +kernel
theorem dX4_fire_18 : decode cX4_fire 18 = .ok (.if_icmp .ne 12, 3) := by decide +kernel
theorem dX4_fire_21 : decode cX4_fire 21 = .ok (.iload_n 1, 1) := by decide +kernel
theorem dX4_fire_22 : decode cX4_fire 22 = .ok (.iconst 1, 1) := by decide +kernel
theorem dX4_fire_23 : decode cX4_fire 23 = .ok (.if_icmp .lt 7, 3) := by decide +kernel
theorem dX4_fire_26 : decode cX4_fire 26 = .ok (.iconst 1, 1) := by decide +kernel
theorem dX4_fire_27 : decode cX4_fire 27 = .ok (.goto 4, 3) := by decide +kernel
theorem dX4_fire_30 : decode cX4_fire 30 = .ok (.iconst 0, 1) := by decide +kernel
theorem dX4_fire_31 : decode cX4_fire 31 = .ok (.istore_n 2, 1) := by decide +kernel
theorem dX4_fire_32 : decode cX4_fire 32 = .ok (.iload_n 2, 1) := by decide +kernel
theorem dX4_fire_33 : decode cX4_fire 33 = .ok (.ifCond .ne 4, 3) := by decide +kernel
theorem dX4_fire_36 : decode cX4_fire 36 = .ok (.return_, 1) := by decide +kernel
theorem dX4_fire_37 : decode cX4_fire 37 = .ok (.iload_n 1, 1) := by decide +kernel
theorem dX4_fire_38 : decode cX4_fire 38 = .ok (.aload_n 0, 1) := by decide +kernel
theorem dX4_fire_39 : decode cX4_fire 39 = .ok (.getfield 40, 3) := by decide +kernel
theorem dX4_fire_42 : decode cX4_fire 42 = .ok (.getfield 75, 3) := by decide +kernel
theorem dX4_fire_45 : decode cX4_fire 45 = .ok (.if_icmp .le 21, 3) := by decide +kernel
theorem dX4_fire_48 : decode cX4_fire 48 = .ok (.aload_n 0, 1) := by decide +kernel
theorem dX4_fire_49 : decode cX4_fire 49 = .ok (.dup, 1) := by decide +kernel
theorem dX4_fire_50 : decode cX4_fire 50 = .ok (.getfield 31, 3) := by decide +kernel
theorem dX4_fire_53 : decode cX4_fire 53 = .ok (.iconst 4, 1) := by decide +kernel
theorem dX4_fire_54 : decode cX4_fire 54 = .ok (.ior, 1) := by decide +kernel
theorem dX4_fire_55 : decode cX4_fire 55 = .ok (.putfield 31, 3) := by decide +kernel
theorem dX4_fire_58 : decode cX4_fire 58 = .ok (.aload_n 0, 1) := by decide +kernel
theorem dX4_fire_59 : decode cX4_fire 59 = .ok (.iconst 5, 1) := by decide +kernel
theorem dX4_fire_60 : decode cX4_fire 60 = .ok (.putfield 15, 3) := by decide +kernel
theorem dX4_fire_63 : decode cX4_fire 63 = .ok (.goto 44, 3) := by decide +kernel
theorem dX4_fire_66 : decode cX4_fire 66 = .ok (.aload_n 0, 1) := by decide +kernel
theorem dX4_fire_67 : decode cX4_fire 67 = .ok (.getfield 9, 3) := by decide +kernel
theorem dX4_fire_70 : decode cX4_fire 70 = .ok (.ifnonnull 11, 3) := by decide +kernel
theorem dX4_fire_73 : decode cX4_fire 73 = .ok (.aload_n 0, 1) := by decide +kernel
theorem dX4_fire_74 : decode cX4_fire 74 = .ok (.iconst 2, 1) := by decide +kernel
theorem dX4_fire_75 : decode cX4_fire 75 = .ok (.putfield 15, 3) := by decide +kernel
theorem dX4_fire_78 : decode cX4_fire 78 = .ok (.goto 29, 3) := by decide +kernel
theorem dX4_fire_81 : decode cX4_fire 81 = .ok (.aload_n 0, 1) := by decide +kernel
theorem dX4_fire_82 : decode cX4_fire 82 = .ok (.dup, 1) := by decide +kernel
theorem dX4_fire_83 : decode cX4_fire 83 = .ok (.getfield 31, 3) := by decide +kernel
theorem dX4_fire_86 : decode cX4_fire 86 = .ok (.aload_n 0, 1) := by decide +kernel
theorem dX4_fire_87 : decode cX4_fire 87 = .ok (.getfield 9, 3) := by decide +kernel
theorem dX4_fire_90 : decode cX4_fire 90 = .ok (.aload_n 0, 1) := by decide +kernel
theorem dX4_fire_91 : decode cX4_fire 91 = .ok (.getfield 40, 3) := by decide +kernel
theorem dX4_fire_94 : decode cX4_fire 94 = .ok (.iload_n 1, 1) := by decide +kernel
theorem dX4_fire_95 : decode cX4_fire 95 = .ok (.invokevirtual 80, 3) := by decide +kernel
theorem dX4_fire_98 : decode cX4_fire 98 = .ok (.ior, 1) := by decide +kernel
theorem dX4_fire_99 : decode cX4_fire 99 = .ok (.putfield 31, 3) := by decide +kernel
theorem dX4_fire_102 : decode cX4_fire 102 = .ok (.aload_n 0, 1) := by decide +kernel
theorem dX4_fire_103 : decode cX4_fire 103 = .ok (.iconst 4, 1) := by decide +kernel
theorem dX4_fire_104 : decode cX4_fire 104 = .ok (.putfield 15, 3) := by decide +kernel
theorem dX4_fire_107 : decode cX4_fire 107 = .ok (.return_, 1) := by decide +kernel
theorem dX5_init_0 : decode cX5_init 0 = .ok (.aload_n 0, 1) := by decide +kernel
theorem dX5_init_1 : decode cX5_init 1 = .ok (.invokespecial 3, 3) := by decide +kernel
theorem dX5_init_4 : decode cX5_init 4 = .ok (.aload_n 0, 1) := by decide +kernel
theorem dX5_init_5 : decode cX5_init 5 = .ok (.iconst 5, 1) := by decide +kernel
theorem dX5_init_6 : decode cX5_init 6 = .ok (.anewarray 9, 3) := by decide +kernel
theorem dX5_init_9 : decode cX5_init 9 = .ok (.putfield 11, 3) := by decide +kernel
theorem dX5_init_12 : decode cX5_init 12 = .ok (.aload_n 0, 1) := by decide +kernel
theorem dX5_init_13 : decode cX5_init 13 = .ok (.iconst 0, 1) := by decide +kernel
theorem dX5_init_14 : decode cX5_init 14 = .ok (.putfield 17, 3) := by decide +kernel
theorem dX5_init_17 : decode cX5_init 17 = .ok (.return_, 1) := by decide +kernel
theorem dX5_rampAt_0 : decode cX5_rampAt 0 = .ok (.iload_n 1, 1) := by decide +kernel
theorem dX5_rampAt_1 : decode cX5_rampAt 1 = .ok (.ifCond .lt 29, 3) := by decide +kernel
theorem dX5_rampAt_4 : decode cX5_rampAt 4 = .ok (.iload_n 1, 1) := by decide +kernel
theorem dX5_rampAt_5 : decode cX5_rampAt 5 = .ok (.aload_n 0, 1) := by decide +kernel
theorem dX5_rampAt_6 : decode cX5_rampAt 6 = .ok (.getfield 17, 3) := by decide +kernel
theorem dX5_rampAt_9 : decode cX5_rampAt 9 = .ok (.if_icmp .ge 21, 3) := by decide +kernel
theorem dX5_rampAt_12 : decode cX5_rampAt 12 = .ok (.iload_n 1, 1) := by decide +kernel
theorem dX5_rampAt_13 : decode cX5_rampAt 13 = .ok (.aload_n 0, 1) := by decide +kernel
theorem dX5_rampAt_14 : decode cX5_rampAt 14 = .ok (.getfield 11, 3) := by decide +kernel
theorem dX5_rampAt_17 : decode cX5_rampAt 17 = .ok (.arraylength, 1) := by decide +kernel
theorem dX5_rampAt_18 : decode cX5_rampAt 18 = .ok (.if_icmp .ge 12, 3) := by decide +kernel
theorem dX5_rampAt_21 : decode cX5_rampAt 21 = .ok (.aload_n 0, 1) := by decide +kernel
theorem dX5_rampAt_22 : decode cX5_rampAt 22 = .ok (.getfield 11, 3) := by decide +kernel
theorem dX5_rampAt_25 : decode cX5_rampAt 25 = .ok (.iload_n 1, 1) := by decide +kernel
theorem dX5_rampAt_26 : decode cX5_rampAt 26 = .ok (.aaload, 1) := by decide +kernel
theorem dX5_rampAt_27 : decode cX5_rampAt 27 = .ok (.goto 4, 3) := by decide +kernel
theorem dX5_rampAt_30 : decode cX5_rampAt 30 = .ok (.aconst_null, 1) := by decide +kernel
theorem dX5_rampAt_31 : decode cX5_rampAt 31 = .ok (.areturn, 1) := by decide +kernel
theorem dX6_init_0 : decode cX6_init 0 = .ok (.aload_n 0, 1) := by decide +kernel
theorem dX6_init_1 : decode cX6_init 1 = .ok (.invokespecial 1, 3) := by decide +kernel
theorem dX6_init_4 : decode cX6_init 4 = .ok (.aload_n 0, 1) := by decide +kernel
theorem dX6_init_5 : decode cX6_init 5 = .ok (.iload_n 1, 1) := by decide +kernel
theorem dX6_init_6 : decode cX6_init 6 = .ok (.putfield 7, 3) := by decide +kernel
theorem dX6_init_9 : decode cX6_init 9 = .ok (.aload_n 0, 1) := by decide +kernel
theorem dX6_init_10 : decode cX6_init 10 = .ok (.iload_n 2, 1) := by decide +kernel
theorem dX6_init_11 : decode cX6_init 11 = .ok (.putfield 13, 3) := by decide +kernel
theorem dX6_init_14 : decode cX6_init 14 = .ok (.aload_n 0, 1) := by decide +kernel
theorem dX6_init_15 : decode cX6_init 15 = .ok (.iload_n 3, 1) := by decide +kernel
theorem dX6_init_16 : decode cX6_init 16 = .ok (.putfield 16, 3) := by decide +kernel
theorem dX6_init_19 : decode cX6_init 19 = .ok (.return_, 1) := by decide +kernel
end
section
theorem dX7_init_0 : decode cX7_init 0 = .ok (.aload_n 0, 1) := by decide +kernel
theorem dX7_init_1 : decode cX7_init 1 = .ok (.invokespecial 1, 3) := by decide +kernel
theorem dX7_init_4 : decode cX7_init 4 = .ok (.aload_n 0, 1) := by decide +kernel
theorem dX7_init_5 : decode cX7_init 5 = .ok (.iconst 3, 1) := by decide +kernel
theorem dX7_init_6 : decode cX7_init 6 = .ok (.anewarray 9, 3) := by decide +kernel
theorem dX7_init_9 : decode cX7_init 9 = .ok (.putfield 11, 3) := by decide +kernel
theorem dX7_init_12 : decode cX7_init 12 = .ok (.aload_n 0, 1) := by decide +kernel
theorem dX7_init_13 : decode cX7_init 13 = .ok (.iconst 4, 1) := by decide +kernel
theorem dX7_init_14 : decode cX7_init 14 = .ok (.anewarray 15, 3) := by decide +kernel
theorem dX7_init_17 : decode cX7_init 17 = .ok (.putfield 17, 3) := by decide +kernel
theorem dX7_init_20 : decode cX7_init 20 = .ok (.aload_n 0, 1) := by decide +kernel
theorem dX7_init_21 : decode cX7_init 21 = .ok (.bipush 14, 2) := by decide +kernel
theorem dX7_init_23 : decode cX7_init 23 = .ok (.anewarray 21, 3) := by decide +kernel
theorem dX7_init_26 : decode cX7_init 26 = .ok (.putfield 23, 3) := by decide +kernel
theorem dX7_init_29 : decode cX7_init 29 = .ok (.aload_n 0, 1) := by decide +kernel
theorem dX7_init_30 : decode cX7_init 30 = .ok (.bipush 6, 2) := by decide +kernel
theorem dX7_init_32 : decode cX7_init 32 = .ok (.anewarray 27, 3) := by decide +kernel
theorem dX7_init_35 : decode cX7_init 35 = .ok (.putfield 29, 3) := by decide +kernel
theorem dX7_init_38 : decode cX7_init 38 = .ok (.aload_n 0, 1) := by decide +kernel
theorem dX7_init_39 : decode cX7_init 39 = .ok (.iconst 0, 1) := by decide +kernel
theorem dX7_init_40 : decode cX7_init 40 = .ok (.putfield 33, 3) := by decide +kernel
theorem dX7_init_43 : decode cX7_init 43 = .ok (.aload_n 0, 1) := by decide +kernel
theorem dX7_init_44 : decode cX7_init 44 = .ok (.iconst 0, 1) := by decide +kernel
theorem dX7_init_45 : decode cX7_init 45 = .ok (.putfield 37, 3) := by decide +kernel
theorem dX7_init_48 : decode cX7_init 48 = .ok (.aload_n 0, 1) := by decide +kernel
theorem dX7_init_49 : decode cX7_init 49 = .ok (.iconst 0, 1) := by decide +kernel
theorem dX7_init_50 : decode cX7_init 50 = .ok (.putfield 40, 3) := by decide +kernel
theorem dX7_init_53 : decode cX7_init 53 = .ok (.aload_n 0, 1) := by decide +kernel
theorem dX7_init_54 : decode cX7_init 54 = .ok (.iconst 0, 1) := by decide +kernel
theorem dX7_init_55 : decode cX7_init 55 = .ok (.putfield 43, 3) := by decide +kernel
theorem dX7_init_58 : decode cX7_init 58 = .ok (.aload_n 0, 1) := by decide +kernel
theorem dX7_init_59 : decode cX7_init 59 = .ok (.new 46, 3) := by decide +kernel
theorem dX7_init_62 : decode cX7_init 62 = .ok (.dup, 1) := by decide +kernel
theorem dX7_init_63 : decode cX7_init 63 = .ok (.invokespecial 48, 3) := by decide +kernel
theorem dX7_init_66 : decode cX7_init 66 = .ok (.putfield 49, 3) := by decide +kernel
theorem dX7_init_69 : decode cX7_init 69 = .ok (.aload_n 0, 1) := by decide +kernel
theorem dX7_init_70 : decode cX7_init 70 = .ok (.new 53, 3) := by decide +kernel
theorem dX7_init_73 : decode cX7_init 73 = .ok (.dup, 1) := by decide +kernel
theorem dX7_init_74 : decode cX7_init 74 = .ok (.aload_n 0, 1) := by decide +kernel
theorem dX7_init_75 : decode cX7_init 75 = .ok (.getfield 49, 3) := by decide +kernel
theorem dX7_init_78 : decode cX7_init 78 = .ok (.invokespecial 55, 3) := by decide +kernel
theorem dX7_init_81 : decode cX7_init 81 = .ok (.putfield 58, 3) := by decide +kernel
theorem dX7_init_84 : decode cX7_init 84 = .ok (.aload_n 0, 1) := by decide +kernel
theorem dX7_init_85 : decode cX7_init 85 = .ok (.new 53, 3) := by decide +kernel
theorem dX7_init_88 : decode cX7_init 88 = .ok (.dup, 1) := by decide +kernel
theorem dX7_init_89 : decode cX7_init 89 = .ok (.aload_n 0, 1) := by decide +kernel
theorem dX7_init_90 : decode cX7_init 90 = .ok (.getfield 49, 3) := by decide +kernel
theorem dX7_init_93 : decode cX7_init 93 = .ok (.invokespecial 55, 3) := by decide +kernel
theorem dX7_init_96 : decode cX7_init 96 = .ok (.putfield 62, 3) := by decide +kernel
theorem dX7_init_99 : decode cX7_init 99 = .ok (.aload_n 0, 1) := by decide +kernel
theorem dX7_init_100 : decode cX7_init 100 = .ok (.iconst 0, 1) := by decide +kernel
theorem dX7_init_101 : decode cX7_init 101 = .ok (.putfield 65, 3) := by decide +kernel
theorem dX7_init_104 : decode cX7_init 104 = .ok (.aload_n 0, 1) := by decide +kernel
theorem dX7_init_105 : decode cX7_init 105 = .ok (.iconst 0, 1) := by decide +kernel
theorem dX7_init_106 : decode cX7_init 106 = .ok (.putfield 68, 3) := by decide +kernel
theorem dX7_init_109 : decode cX7_init 109 = .ok (.aload_n 0, 1) := by decide +kernel
theorem dX7_init_110 : decode cX7_init 110 = .ok (.iconst 0, 1) := by decide +kernel
theorem dX7_init_111 : decode cX7_init 111 = .ok (.putfield 71, 3) := by decide +kernel
theorem dX7_init_114 : decode cX7_init 114 = .ok (.return_, 1) := by decide +kernel
theorem dX7_clay_0 : decode cX7_clay 0 = .ok (.iload_n 1, 1) := by decide +kernel
theorem dX7_clay_1 : decode cX7_clay 1 = .ok (.iconst 1, 1) := by decide +kernel
theorem dX7_clay_2 : decode cX7_clay 2 = .ok (.bipush 12, 2) := by decide +kernel
theorem dX7_clay_4 : decode cX7_clay 4 = .ok (.invokestatic 74, 3) := by decide +kernel
theorem dX7_clay_7 : decode cX7_clay 7 = .ok (.ifCond .eq 14, 3) := by decide +kernel
theorem dX7_clay_10 : decode cX7_clay 10 = .ok (.iload_n 2, 1) := by decide +kernel
theorem dX7_clay_11 : decode cX7_clay 11 = .ok (.bipush 8, 2) := by decide +kernel
theorem dX7_clay_13 : decode cX7_clay 13 = .ok (.bipush 40, 2) := by decide +kernel
theorem dX7_clay_15 : decode cX7_clay 15 = .ok (.invokestatic 74, 3) := by decide +kernel
theorem dX7_clay_18 : decode cX7_clay 18 = .ok (.ifCond .ne 13, 3) := by decide +kernel
theorem dX7_clay_21 : decode cX7_clay 21 = .ok (.new 78, 3) := by decide +kernel
theorem dX7_clay_24 : decode cX7_clay 24 = .ok (.dup, 1) := by decide +kernel
theorem dX7_clay_25 : decode cX7_clay 25 = .ok (.ldc 80, 2) := by decide +kernel
theorem dX7_clay_27 : decode cX7_clay 27 = .ok (.invokespecial 82, 3) := by decide +kernel
theorem dX7_clay_30 : decode cX7_clay 30 = .ok (.athrow, 1) := by decide +kernel
theorem dX7_clay_31 : decode cX7_clay 31 = .ok (.aload_n 0, 1) := by decide +kernel
theorem dX7_clay_32 : decode cX7_clay 32 = .ok (.getfield 33, 3) := by decide +kernel
theorem dX7_clay_35 : decode cX7_clay 35 = .ok (.aload_n 0, 1) := by decide +kernel
theorem dX7_clay_36 : decode cX7_clay 36 = .ok (.getfield 11, 3) := by decide +kernel
theorem dX7_clay_39 : decode cX7_clay 39 = .ok (.arraylength, 1) := by decide +kernel
theorem dX7_clay_40 : decode cX7_clay 40 = .ok (.if_icmp .lt 13, 3) := by decide +kernel
theorem dX7_clay_43 : decode cX7_clay 43 = .ok (.new 85, 3) := by decide +kernel
theorem dX7_clay_46 : decode cX7_clay 46 = .ok (.dup, 1) := by decide +kernel
theorem dX7_clay_47 : decode cX7_clay 47 = .ok (.ldc 87, 2) := by decide +kernel
theorem dX7_clay_49 : decode cX7_clay 49 = .ok (.invokespecial 89, 3) := by decide +kernel
theorem dX7_clay_52 : decode cX7_clay 52 = .ok (.athrow, 1) := by decide +kernel
theorem dX7_clay_53 : decode cX7_clay 53 = .ok (.aload_n 0, 1) := by decide +kernel
theorem dX7_clay_54 : decode cX7_clay 54 = .ok (.getfield 11, 3) := by decide +kernel
theorem dX7_clay_57 : decode cX7_clay 57 = .ok (.aload_n 0, 1) := by decide +kernel
theorem dX7_clay_58 : decode cX7_clay 58 = .ok (.getfield 33, 3) := by decide +kernel
theorem dX7_clay_61 : decode cX7_clay 61 = .ok (.new 9, 3) := by decide +kernel
theorem dX7_clay_64 : decode cX7_clay 64 = .ok (.dup, 1) := by decide +kernel
theorem dX7_clay_65 : decode cX7_clay 65 = .ok (.iload_n 1, 1) := by decide +kernel
theorem dX7_clay_66 : decode cX7_clay 66 = .ok (.iload_n 2, 1) := by decide +kernel
theorem dX7_clay_67 : decode cX7_clay 67 = .ok (.invokespecial 90, 3) := by decide +kernel
theorem dX7_clay_70 : decode cX7_clay 70 = .ok (.aastore, 1) := by decide +kernel
theorem dX7_clay_71 : decode cX7_clay 71 = .ok (.aload_n 0, 1) := by decide +kernel
theorem dX7_clay_72 : decode cX7_clay 72 = .ok (.dup, 1) := by decide +kernel
theorem dX7_clay_73 : decode cX7_clay 73 = .ok (.getfield 33, 3) := by decide +kernel
theorem dX7_clay_76 : decode cX7_clay 76 = .ok (.iconst 1, 1) := by decide +kernel
theorem dX7_clay_77 : decode cX7_clay 77 = .ok (.iadd, 1) := by decide +kernel
theorem dX7_clay_78 : decode cX7_clay 78 = .ok (.putfield 33, 3) := by decide +kernel
theorem dX7_clay_81 : decode cX7_clay 81 = .ok (.aload_n 0, 1) := by decide +kernel
theorem dX7_clay_82 : decode cX7_clay 82 = .ok (.getfield 33, 3) := by decide +kernel
theorem dX7_clay_85 : decode cX7_clay 85 = .ok (.iconst 1, 1) := by decide +kernel
theorem dX7_clay_86 : decode cX7_clay 86 = .ok (.isub, 1) := by decide +kernel
theorem dX7_clay_87 : decode cX7_clay 87 = .ok (.ireturn, 1) := by decide +kernel
theorem dX7_glaze_0 : decode cX7_glaze 0 = .ok (.iload_n 1, 1) := by decide +kernel
theorem dX7_glaze_1 : decode cX7_glaze 1 = .ok (.invokestatic 93, 3) := by decide +kernel
theorem dX7_glaze_4 : decode cX7_glaze 4 = .ok (.ifCond .eq 33, 3) := by decide +kernel
theorem dX7_glaze_7 : decode cX7_glaze 7 = .ok (.iload_n 2, 1) := by decide +kernel
theorem dX7_glaze_8 : decode cX7_glaze 8 = .ok (.invokestatic 93, 3) := by decide +kernel
theorem dX7_glaze_11 : decode cX7_glaze 11 = .ok (.ifCond .eq 26, 3) := by decide +kernel
theorem dX7_glaze_14 : decode cX7_glaze 14 = .ok (.iload_n 3, 1) := by decide +kernel
theorem dX7_glaze_15 : decode cX7_glaze 15 = .ok (.invokestatic 93, 3) := by decide +kernel
theorem dX7_glaze_18 : decode cX7_glaze 18 = .ok (.ifCond .eq 19, 3) := by decide +kernel
theorem dX7_glaze_21 : decode cX7_glaze 21 = .ok (.iload 4, 2) := by decide +kernel
theorem dX7_glaze_23 : decode cX7_glaze 23 = .ok (.invokestatic 93, 3) := by decide +kernel
theorem dX7_glaze_26 : decode cX7_glaze 26 = .ok (.ifCond .eq 11, 3) := by decide +kernel
theorem dX7_glaze_29 : decode cX7_glaze 29 = .ok (.iload 5, 2) := by decide +kernel
theorem dX7_glaze_31 : decode cX7_glaze 31 = .ok (.invokestatic 93, 3) := by decide +kernel
theorem dX7_glaze_34 : decode cX7_glaze 34 = .ok (.ifCond .ne 13, 3) := by decide +kernel
theorem dX7_glaze_37 : decode cX7_glaze 37 = .ok (.new 78, 3) := by decide +kernel
theorem dX7_glaze_40 : decode cX7_glaze 40 = .ok (.dup, 1) := by decide +kernel
theorem dX7_glaze_41 : decode cX7_glaze 41 = .ok (.ldc 97, 2) := by decide +kernel
theorem dX7_glaze_43 : decode cX7_glaze 43 = .ok (.invokespecial 82, 3) := by decide +kernel
theorem dX7_glaze_46 : decode cX7_glaze 46 = .ok (.athrow, 1) := by decide +kernel
theorem dX7_glaze_47 : decode cX7_glaze 47 = .ok (.iload_n 1, 1) := by decide +kernel
theorem dX7_glaze_48 : decode cX7_glaze 48 = .ok (.ifCond .ne 17, 3) := by decide +kernel
theorem dX7_glaze_51 : decode cX7_glaze 51 = .ok (.iload_n 2, 1) := by decide +kernel
theorem dX7_glaze_52 : decode cX7_glaze 52 = .ok (.ifCond .ne 13, 3) := by decide +kernel
theorem dX7_glaze_55 : decode cX7_glaze 55 = .ok (.new 78, 3) := by decide +kernel
theorem dX7_glaze_58 : decode cX7_glaze 58 = .ok (.dup, 1) := by decide +kernel
theorem dX7_glaze_59 : decode cX7_glaze 59 = .ok (.ldc 99, 2) := by decide +kernel
theorem dX7_glaze_61 : decode cX7_glaze 61 = .ok (.invokespecial 82, 3) := by decide +kernel
theorem dX7_glaze_64 : decode cX7_glaze 64 = .ok (.athrow, 1) := by decide +kernel
theorem dX7_glaze_65 : decode cX7_glaze 65 = .ok (.aload_n 0, 1) := by decide +kernel
theorem dX7_glaze_66 : decode cX7_glaze 66 = .ok (.getfield 37, 3) := by decide +kernel
theorem dX7_glaze_69 : decode cX7_glaze 69 = .ok (.aload_n 0, 1) := by decide +kernel
theorem dX7_glaze_70 : decode cX7_glaze 70 = .ok (.getfield 17, 3) := by decide +kernel
theorem dX7_glaze_73 : decode cX7_glaze 73 = .ok (.arraylength, 1) := by decide +kernel
theorem dX7_glaze_74 : decode cX7_glaze 74 = .ok (.if_icmp .lt 13, 3) := by decide +kernel
theorem dX7_glaze_77 : decode cX7_glaze 77 = .ok (.new 85, 3) := by decide +kernel
theorem dX7_glaze_80 : decode cX7_glaze 80 = .ok (.dup, 1) := by decide +kernel
theorem dX7_glaze_81 : decode cX7_glaze 81 = .ok (.ldc 101, 2) := by decide +kernel
theorem dX7_glaze_83 : decode cX7_glaze 83 = .ok (.invokespecial 89, 3) := by decide +kernel
theorem dX7_glaze_86 : decode cX7_glaze 86 = .ok (.athrow, 1) := by decide +kernel
theorem dX7_glaze_87 : decode cX7_glaze 87 = .ok (.aload_n 0, 1) := by decide +kernel
theorem dX7_glaze_88 : decode cX7_glaze 88 = .ok (.getfield 17, 3) := by decide +kernel
theorem dX7_glaze_91 : decode cX7_glaze 91 = .ok (.aload_n 0, 1) := by decide +kernel
theorem dX7_glaze_92 : decode cX7_glaze 92 = .ok (.getfield 37, 3) := by decide +kernel
theorem dX7_glaze_95 : decode cX7_glaze 95 = .ok (.new 15, 3) := by decide +kernel
theorem dX7_glaze_98 : decode cX7_glaze 98 = .ok (.dup, 1) := by decide +kernel
theorem dX7_glaze_99 : decode cX7_glaze 99 = .ok (.aload_n 0, 1) := by decide +kernel
theorem dX7_glaze_100 : decode cX7_glaze 100 = .ok (.getfield 37, 3) := by decide +kernel
theorem dX7_glaze_103 : decode cX7_glaze 103 = .ok (.iload_n 1, 1) := by decide +kernel
theorem dX7_glaze_104 : decode cX7_glaze 104 = .ok (.iload_n 2, 1) := by decide +kernel
theorem dX7_glaze_105 : decode cX7_glaze 105 = .ok (.iload_n 3, 1) := by decide +kernel
theorem dX7_glaze_106 : decode cX7_glaze 106 = .ok (.iload 4, 2) := by decide +kernel
theorem dX7_glaze_108 : decode cX7_glaze 108 = .ok (.iload 5, 2) := by decide +kernel
theorem dX7_glaze_110 : decode cX7_glaze 110 = .ok (.invokespecial 103, 3) := by decide +kernel
theorem dX7_glaze_113 : decode cX7_glaze 113 = .ok (.aastore, 1) := by decide +kernel
theorem dX7_glaze_114 : decode cX7_glaze 114 = .ok (.aload_n 0, 1) := by decide +kernel
theorem dX7_glaze_115 : decode cX7_glaze 115 = .ok (.dup, 1) := by decide +kernel
theorem dX7_glaze_116 : decode cX7_glaze 116 = .ok (.getfield 37, 3) := by decide +kernel
theorem dX7_glaze_119 : decode cX7_glaze 119 = .ok (.iconst 1, 1) := by decide +kernel
theorem dX7_glaze_120 : decode cX7_glaze 120 = .ok (.iadd, 1) := by decide +kernel
theorem dX7_glaze_121 : decode cX7_glaze 121 = .ok (.putfield 37, 3) := by decide +kernel
theorem dX7_glaze_124 : decode cX7_glaze 124 = .ok (.aload_n 0, 1) := by decide +kernel
theorem dX7_glaze_125 : decode cX7_glaze 125 = .ok (.getfield 37, 3) := by decide +kernel
theorem dX7_glaze_128 : decode cX7_glaze 128 = .ok (.iconst 1, 1) := by decide +kernel
theorem dX7_glaze_129 : decode cX7_glaze 129 = .ok (.isub, 1) := by decide +kernel
theorem dX7_glaze_130 : decode cX7_glaze 130 = .ok (.ireturn, 1) := by decide +kernel
theorem dX7_pot_0 : decode cX7_pot 0 = .ok (.aload_n 0, 1) := by decide +kernel
theorem dX7_pot_1 : decode cX7_pot 1 = .ok (.iload_n 1, 1) := by decide +kernel
theorem dX7_pot_2 : decode cX7_pot 2 = .ok (.invokevirtual 106, 3) := by decide +kernel
theorem dX7_pot_5 : decode cX7_pot 5 = .ok (.astore 5, 2) := by decide +kernel
theorem dX7_pot_7 : decode cX7_pot 7 = .ok (.iload 4, 2) := by decide +kernel
theorem dX7_pot_9 : decode cX7_pot 9 = .ok (.iconst 1, 1) := by decide +kernel
theorem dX7_pot_10 : decode cX7_pot 10 = .ok (.if_icmp .eq 15, 3) := by decide +kernel
theorem dX7_pot_13 : decode cX7_pot 13 = .ok (.iload 4, 2) := by decide +kernel
theorem dX7_pot_15 : decode cX7_pot 15 = .ok (.iconst 2, 1) := by decide +kernel
theorem dX7_pot_16 : decode cX7_pot 16 = .ok (.if_icmp .eq 9, 3) := by decide +kernel
theorem dX7_pot_19 : decode cX7_pot 19 = .ok (.iload 4, 2) := by decide +kernel
theorem dX7_pot_21 : decode cX7_pot 21 = .ok (.iconst 4, 1) := by decide +kernel
theorem dX7_pot_22 : decode cX7_pot 22 = .ok (.if_icmp .ne 7, 3) := by decide +kernel
theorem dX7_pot_25 : decode cX7_pot 25 = .ok (.iconst 1, 1) := by decide +kernel
theorem dX7_pot_26 : decode cX7_pot 26 = .ok (.goto 4, 3) := by decide +kernel
theorem dX7_pot_29 : decode cX7_pot 29 = .ok (.iconst 0, 1) := by decide +kernel
theorem dX7_pot_30 : decode cX7_pot 30 = .ok (.istore 6, 2) := by decide +kernel
theorem dX7_pot_32 : decode cX7_pot 32 = .ok (.iload_n 2, 1) := by decide +kernel
theorem dX7_pot_33 : decode cX7_pot 33 = .ok (.iconst 1, 1) := by decide +kernel
theorem dX7_pot_34 : decode cX7_pot 34 = .ok (.iconst 5, 1) := by decide +kernel
theorem dX7_pot_35 : decode cX7_pot 35 = .ok (.invokestatic 74, 3) := by decide +kernel
theorem dX7_pot_38 : decode cX7_pot 38 = .ok (.ifCond .eq 17, 3) := by decide +kernel
theorem dX7_pot_41 : decode cX7_pot 41 = .ok (.iload_n 3, 1) := by decide +kernel
theorem dX7_pot_42 : decode cX7_pot 42 = .ok (.iconst 1, 1) := by decide +kernel
theorem dX7_pot_43 : decode cX7_pot 43 = .ok (.iconst 3, 1) := by decide +kernel
theorem dX7_pot_44 : decode cX7_pot 44 = .ok (.invokestatic 74, 3) := by decide +kernel
theorem dX7_pot_47 : decode cX7_pot 47 = .ok (.ifCond .eq 8, 3) := by decide +kernel
theorem dX7_pot_50 : decode cX7_pot 50 = .ok (.iload 6, 2) := by decide +kernel
theorem dX7_pot_52 : decode cX7_pot 52 = .ok (.ifCond .ne 13, 3) := by decide +kernel
theorem dX7_pot_55 : decode cX7_pot 55 = .ok (.new 78, 3) := by decide +kernel
theorem dX7_pot_58 : decode cX7_pot 58 = .ok (.dup, 1) := by decide +kernel
theorem dX7_pot_59 : decode cX7_pot 59 = .ok (.ldc 110, 2) := by decide +kernel
theorem dX7_pot_61 : decode cX7_pot 61 = .ok (.invokespecial 82, 3) := by decide +kernel
theorem dX7_pot_64 : decode cX7_pot 64 = .ok (.athrow, 1) := by decide +kernel
theorem dX7_pot_65 : decode cX7_pot 65 = .ok (.aload_n 0, 1) := by decide +kernel
theorem dX7_pot_66 : decode cX7_pot 66 = .ok (.getfield 40, 3) := by decide +kernel
theorem dX7_pot_69 : decode cX7_pot 69 = .ok (.aload_n 0, 1) := by decide +kernel
theorem dX7_pot_70 : decode cX7_pot 70 = .ok (.getfield 23, 3) := by decide +kernel
theorem dX7_pot_73 : decode cX7_pot 73 = .ok (.arraylength, 1) := by decide +kernel
theorem dX7_pot_74 : decode cX7_pot 74 = .ok (.if_icmp .lt 13, 3) := by decide +kernel
theorem dX7_pot_77 : decode cX7_pot 77 = .ok (.new 85, 3) := by decide +kernel
theorem dX7_pot_80 : decode cX7_pot 80 = .ok (.dup, 1) := by decide +kernel
theorem dX7_pot_81 : decode cX7_pot 81 = .ok (.ldc 112, 2) := by decide +kernel
theorem dX7_pot_83 : decode cX7_pot 83 = .ok (.invokespecial 89, 3) := by decide +kernel
theorem dX7_pot_86 : decode cX7_pot 86 = .ok (.athrow, 1) := by decide +kernel
theorem dX7_pot_87 : decode cX7_pot 87 = .ok (.aload_n 0, 1) := by decide +kernel
theorem dX7_pot_88 : decode cX7_pot 88 = .ok (.getfield 23, 3) := by decide +kernel
theorem dX7_pot_91 : decode cX7_pot 91 = .ok (.aload_n 0, 1) := by decide +kernel
theorem dX7_pot_92 : decode cX7_pot 92 = .ok (.getfield 40, 3) := by decide +kernel
theorem dX7_pot_95 : decode cX7_pot 95 = .ok (.new 21, 3) := by decide +kernel
theorem dX7_pot_98 : decode cX7_pot 98 = .ok (.dup, 1) := by decide +kernel
theorem dX7_pot_99 : decode cX7_pot 99 = .ok (.aload 5, 2) := by decide +kernel
theorem dX7_pot_101 : decode cX7_pot 101 = .ok (.iload_n 2, 1) := by decide +kernel
theorem dX7_pot_102 : decode cX7_pot 102 = .ok (.iload_n 3, 1) := by decide +kernel
theorem dX7_pot_103 : decode cX7_pot 103 = .ok (.iload 4, 2) := by decide +kernel
theorem dX7_pot_105 : decode cX7_pot 105 = .ok (.invokespecial 114, 3) := by decide +kernel
theorem dX7_pot_108 : decode cX7_pot 108 = .ok (.aastore, 1) := by decide +kernel
theorem dX7_pot_109 : decode cX7_pot 109 = .ok (.aload_n 0, 1) := by decide +kernel
theorem dX7_pot_110 : decode cX7_pot 110 = .ok (.dup, 1) := by decide +kernel
theorem dX7_pot_111 : decode cX7_pot 111 = .ok (.getfield 40, 3) := by decide +kernel
theorem dX7_pot_114 : decode cX7_pot 114 = .ok (.iconst 1, 1) := by decide +kernel
theorem dX7_pot_115 : decode cX7_pot 115 = .ok (.iadd, 1) := by decide +kernel
theorem dX7_pot_116 : decode cX7_pot 116 = .ok (.putfield 40, 3) := by decide +kernel
theorem dX7_pot_119 : decode cX7_pot 119 = .ok (.aload_n 0, 1) := by decide +kernel
theorem dX7_pot_120 : decode cX7_pot 120 = .ok (.getfield 40, 3) := by decide +kernel
theorem dX7_pot_123 : decode cX7_pot 123 = .ok (.iconst 1, 1) := by decide +kernel
theorem dX7_pot_124 : decode cX7_pot 124 = .ok (.isub, 1) := by decide +kernel
theorem dX7_pot_125 : decode cX7_pot 125 = .ok (.ireturn, 1) := by decide +kernel
theorem dX7_cover_0 : decode cX7_cover 0 = .ok (.aload_n 0, 1) := by decide +kernel
theorem dX7_cover_1 : decode cX7_cover 1 = .ok (.iload_n 1, 1) := by decide +kernel
theorem dX7_cover_2 : decode cX7_cover 2 = .ok (.invokevirtual 117, 3) := by decide +kernel
theorem dX7_cover_5 : decode cX7_cover 5 = .ok (.astore_n 3, 1) := by decide +kernel
theorem dX7_cover_6 : decode cX7_cover 6 = .ok (.aload_n 3, 1) := by decide +kernel
theorem dX7_cover_7 : decode cX7_cover 7 = .ok (.getfield 121, 3) := by decide +kernel
theorem dX7_cover_10 : decode cX7_cover 10 = .ok (.istore 4, 2) := by decide +kernel
theorem dX7_cover_12 : decode cX7_cover 12 = .ok (.aload_n 3, 1) := by decide +kernel
theorem dX7_cover_13 : decode cX7_cover 13 = .ok (.iload_n 2, 1) := by decide +kernel
theorem dX7_cover_14 : decode cX7_cover 14 = .ok (.putfield 121, 3) := by decide +kernel
theorem dX7_cover_17 : decode cX7_cover 17 = .ok (.iload 4, 2) := by decide +kernel
theorem dX7_cover_19 : decode cX7_cover 19 = .ok (.ireturn, 1) := by decide +kernel
theorem dX7_dry_0 : decode cX7_dry 0 = .ok (.iload_n 1, 1) := by decide +kernel
theorem dX7_dry_1 : decode cX7_dry 1 = .ok (.iconst 1, 1) := by decide +kernel
theorem dX7_dry_2 : decode cX7_dry 2 = .ok (.bipush 20, 2) := by decide +kernel
theorem dX7_dry_4 : decode cX7_dry 4 = .ok (.invokestatic 74, 3) := by decide +kernel
theorem dX7_dry_7 : decode cX7_dry 7 = .ok (.ifCond .eq 13, 3) := by decide +kernel
theorem dX7_dry_10 : decode cX7_dry 10 = .ok (.iload_n 2, 1) := by decide +kernel
theorem dX7_dry_11 : decode cX7_dry 11 = .ok (.iconst 1, 1) := by decide +kernel
theorem dX7_dry_12 : decode cX7_dry 12 = .ok (.bipush 8, 2) := by decide +kernel
theorem dX7_dry_14 : decode cX7_dry 14 = .ok (.invokestatic 74, 3) := by decide +kernel
theorem dX7_dry_17 : decode cX7_dry 17 = .ok (.ifCond .ne 13, 3) := by decide +kernel
theorem dX7_dry_20 : decode cX7_dry 20 = .ok (.new 78, 3) := by decide +kernel
theorem dX7_dry_23 : decode cX7_dry 23 = .ok (.dup, 1) := by decide +kernel
theorem dX7_dry_24 : decode cX7_dry 24 = .ok (.ldc 125, 2) := by decide +kernel
theorem dX7_dry_26 : decode cX7_dry 26 = .ok (.invokespecial 82, 3) := by decide +kernel
theorem dX7_dry_29 : decode cX7_dry 29 = .ok (.athrow, 1) := by decide +kernel
theorem dX7_dry_30 : decode cX7_dry 30 = .ok (.aload_n 0, 1) := by decide +kernel
theorem dX7_dry_31 : decode cX7_dry 31 = .ok (.getfield 65, 3) := by decide +kernel
theorem dX7_dry_34 : decode cX7_dry 34 = .ok (.iload_n 1, 1) := by decide +kernel
theorem dX7_dry_35 : decode cX7_dry 35 = .ok (.iadd, 1) := by decide +kernel
theorem dX7_dry_36 : decode cX7_dry 36 = .ok (.sipush 200, 3) := by decide +kernel
theorem dX7_dry_39 : decode cX7_dry 39 = .ok (.if_icmp .le 13, 3) := by decide +kernel
theorem dX7_dry_42 : decode cX7_dry 42 = .ok (.new 85, 3) := by decide +kernel
theorem dX7_dry_45 : decode cX7_dry 45 = .ok (.dup, 1) := by decide +kernel
theorem dX7_dry_46 : decode cX7_dry 46 = .ok (.ldc 127, 2) := by decide +kernel
theorem dX7_dry_48 : decode cX7_dry 48 = .ok (.invokespecial 89, 3) := by decide +kernel
theorem dX7_dry_51 : decode cX7_dry 51 = .ok (.athrow, 1) := by decide +kernel
theorem dX7_dry_52 : decode cX7_dry 52 = .ok (.iconst 0, 1) := by decide +kernel
theorem dX7_dry_53 : decode cX7_dry 53 = .ok (.istore_n 3, 1) := by decide +kernel
theorem dX7_dry_54 : decode cX7_dry 54 = .ok (.iload_n 3, 1) := by decide +kernel
theorem dX7_dry_55 : decode cX7_dry 55 = .ok (.iload_n 1, 1) := by decide +kernel
theorem dX7_dry_56 : decode cX7_dry 56 = .ok (.if_icmp .ge 14, 3) := by decide +kernel
theorem dX7_dry_59 : decode cX7_dry 59 = .ok (.aload_n 0, 1) := by decide +kernel
theorem dX7_dry_60 : decode cX7_dry 60 = .ok (.iload_n 2, 1) := by decide +kernel
theorem dX7_dry_61 : decode cX7_dry 61 = .ok (.invokevirtual 129, 3) := by decide +kernel
theorem dX7_dry_64 : decode cX7_dry 64 = .ok (.iinc 3 1, 3) := by decide +kernel
theorem dX7_dry_67 : decode cX7_dry 67 = .ok (.goto (-13), 3) := by decide +kernel
theorem dX7_dry_70 : decode cX7_dry 70 = .ok (.aload_n 0, 1) := by decide +kernel
theorem dX7_dry_71 : decode cX7_dry 71 = .ok (.iconst 1, 1) := by decide +kernel
theorem dX7_dry_72 : decode cX7_dry 72 = .ok (.invokevirtual 133, 3) := by decide +kernel
theorem dX7_dry_75 : decode cX7_dry 75 = .ok (.ireturn, 1) := by decide +kernel
theorem dX7_dip_0 : decode cX7_dip 0 = .ok (.aload_n 0, 1) := by decide +kernel
theorem dX7_dip_1 : decode cX7_dip 1 = .ok (.iload_n 1, 1) := by decide +kernel
theorem dX7_dip_2 : decode cX7_dip 2 = .ok (.invokevirtual 117, 3) := by decide +kernel
theorem dX7_dip_5 : decode cX7_dip 5 = .ok (.astore_n 3, 1) := by decide +kernel
theorem dX7_dip_6 : decode cX7_dip 6 = .ok (.aload_n 0, 1) := by decide +kernel
theorem dX7_dip_7 : decode cX7_dip 7 = .ok (.iload_n 2, 1) := by decide +kernel
theorem dX7_dip_8 : decode cX7_dip 8 = .ok (.invokevirtual 137, 3) := by decide +kernel
theorem dX7_dip_11 : decode cX7_dip 11 = .ok (.astore 4, 2) := by decide +kernel
theorem dX7_dip_13 : decode cX7_dip 13 = .ok (.aload_n 3, 1) := by decide +kernel
theorem dX7_dip_14 : decode cX7_dip 14 = .ok (.getfield 141, 3) := by decide +kernel
theorem dX7_dip_17 : decode cX7_dip 17 = .ok (.iconst 2, 1) := by decide +kernel
theorem dX7_dip_18 : decode cX7_dip 18 = .ok (.if_icmp .eq 13, 3) := by decide +kernel
theorem dX7_dip_21 : decode cX7_dip 21 = .ok (.new 85, 3) := by decide +kernel
theorem dX7_dip_24 : decode cX7_dip 24 = .ok (.dup, 1) := by decide +kernel
theorem dX7_dip_25 : decode cX7_dip 25 = .ok (.ldc 144, 2) := by decide +kernel
theorem dX7_dip_27 : decode cX7_dip 27 = .ok (.invokespecial 89, 3) := by decide +kernel
theorem dX7_dip_30 : decode cX7_dip 30 = .ok (.athrow, 1) := by decide +kernel
theorem dX7_dip_31 : decode cX7_dip 31 = .ok (.aload_n 3, 1) := by decide +kernel
theorem dX7_dip_32 : decode cX7_dip 32 = .ok (.aload 4, 2) := by decide +kernel
theorem dX7_dip_34 : decode cX7_dip 34 = .ok (.putfield 146, 3) := by decide +kernel
theorem dX7_dip_37 : decode cX7_dip 37 = .ok (.aload_n 3, 1) := by decide +kernel
theorem dX7_dip_38 : decode cX7_dip 38 = .ok (.iconst 3, 1) := by decide +kernel
theorem dX7_dip_39 : decode cX7_dip 39 = .ok (.putfield 141, 3) := by decide +kernel
theorem dX7_dip_42 : decode cX7_dip 42 = .ok (.aload 4, 2) := by decide +kernel
theorem dX7_dip_44 : decode cX7_dip 44 = .ok (.getfield 150, 3) := by decide +kernel
theorem dX7_dip_47 : decode cX7_dip 47 = .ok (.ireturn, 1) := by decide +kernel
theorem dX7_set_0 : decode cX7_set 0 = .ok (.aload_n 0, 1) := by decide +kernel
theorem dX7_set_1 : decode cX7_set 1 = .ok (.iload_n 1, 1) := by decide +kernel
theorem dX7_set_2 : decode cX7_set 2 = .ok (.invokevirtual 117, 3) := by decide +kernel
theorem dX7_set_5 : decode cX7_set 5 = .ok (.astore 4, 2) := by decide +kernel
theorem dX7_set_7 : decode cX7_set 7 = .ok (.iload_n 2, 1) := by decide +kernel
theorem dX7_set_8 : decode cX7_set 8 = .ok (.invokestatic 153, 3) := by decide +kernel
theorem dX7_set_11 : decode cX7_set 11 = .ok (.iload_n 3, 1) := by decide +kernel
theorem dX7_set_12 : decode cX7_set 12 = .ok (.iconst 0, 1) := by decide +kernel
theorem dX7_set_13 : decode cX7_set 13 = .ok (.bipush 9, 2) := by decide +kernel
theorem dX7_set_15 : decode cX7_set 15 = .ok (.invokestatic 74, 3) := by decide +kernel
theorem dX7_set_18 : decode cX7_set 18 = .ok (.ifCond .ne 13, 3) := by decide +kernel
theorem dX7_set_21 : decode cX7_set 21 = .ok (.new 156, 3) := by decide +kernel
theorem dX7_set_24 : decode cX7_set 24 = .ok (.dup, 1) := by decide +kernel
theorem dX7_set_25 : decode cX7_set 25 = .ok (.ldc 158, 2) := by decide +kernel
theorem dX7_set_27 : decode cX7_set 27 = .ok (.invokespecial 160, 3) := by decide +kernel
theorem dX7_set_30 : decode cX7_set 30 = .ok (.athrow, 1) := by decide +kernel
theorem dX7_set_31 : decode cX7_set 31 = .ok (.aload_n 0, 1) := by decide +kernel
theorem dX7_set_32 : decode cX7_set 32 = .ok (.getfield 58, 3) := by decide +kernel
theorem dX7_set_35 : decode cX7_set 35 = .ok (.invokevirtual 161, 3) := by decide +kernel
theorem dX7_set_38 : decode cX7_set 38 = .ok (.ifCond .eq 23, 3) := by decide +kernel
theorem dX7_set_41 : decode cX7_set 41 = .ok (.aload 4, 2) := by decide +kernel
theorem dX7_set_43 : decode cX7_set 43 = .ok (.invokevirtual 165, 3) := by decide +kernel
theorem dX7_set_46 : decode cX7_set 46 = .ok (.ifCond .eq 15, 3) := by decide +kernel
theorem dX7_set_49 : decode cX7_set 49 = .ok (.aload 4, 2) := by decide +kernel
theorem dX7_set_51 : decode cX7_set 51 = .ok (.getfield 168, 3) := by decide +kernel
theorem dX7_set_54 : decode cX7_set 54 = .ok (.iload_n 2, 1) := by decide +kernel
theorem dX7_set_55 : decode cX7_set 55 = .ok (.invokestatic 171, 3) := by decide +kernel
theorem dX7_set_58 : decode cX7_set 58 = .ok (.if_icmp .le 13, 3) := by decide +kernel
theorem dX7_set_61 : decode cX7_set 61 = .ok (.new 85, 3) := by decide +kernel
theorem dX7_set_64 : decode cX7_set 64 = .ok (.dup, 1) := by decide +kernel
theorem dX7_set_65 : decode cX7_set 65 = .ok (.ldc 174, 2) := by decide +kernel
theorem dX7_set_67 : decode cX7_set 67 = .ok (.invokespecial 89, 3) := by decide +kernel
theorem dX7_set_70 : decode cX7_set 70 = .ok (.athrow, 1) := by decide +kernel
theorem dX7_set_71 : decode cX7_set 71 = .ok (.aload_n 0, 1) := by decide +kernel
theorem dX7_set_72 : decode cX7_set 72 = .ok (.iload_n 2, 1) := by decide +kernel
theorem dX7_set_73 : decode cX7_set 73 = .ok (.invokevirtual 176, 3) := by decide +kernel
theorem dX7_set_76 : decode cX7_set 76 = .ok (.iload_n 3, 1) := by decide +kernel
theorem dX7_set_77 : decode cX7_set 77 = .ok (.aload 4, 2) := by decide +kernel
theorem dX7_set_79 : decode cX7_set 79 = .ok (.getfield 179, 3) := by decide +kernel
theorem dX7_set_82 : decode cX7_set 82 = .ok (.invokestatic 182, 3) := by decide +kernel
theorem dX7_set_85 : decode cX7_set 85 = .ok (.iand, 1) := by decide +kernel
theorem dX7_set_86 : decode cX7_set 86 = .ok (.ifCond .ne 7, 3) := by decide +kernel
theorem dX7_set_89 : decode cX7_set 89 = .ok (.iconst 1, 1) := by decide +kernel
theorem dX7_set_90 : decode cX7_set 90 = .ok (.goto 4, 3) := by decide +kernel
theorem dX7_set_93 : decode cX7_set 93 = .ok (.iconst 0, 1) := by decide +kernel
theorem dX7_set_94 : decode cX7_set 94 = .ok (.istore 5, 2) := by decide +kernel
theorem dX7_set_96 : decode cX7_set 96 = .ok (.iload_n 3, 1) := by decide +kernel
theorem dX7_set_97 : decode cX7_set 97 = .ok (.aload 4, 2) := by decide +kernel
theorem dX7_set_99 : decode cX7_set 99 = .ok (.getfield 179, 3) := by decide +kernel
theorem dX7_set_102 : decode cX7_set 102 = .ok (.iadd, 1) := by decide +kernel
theorem dX7_set_103 : decode cX7_set 103 = .ok (.bipush 10, 2) := by decide +kernel
theorem dX7_set_105 : decode cX7_set 105 = .ok (.if_icmp .gt 8, 3) := by decide +kernel
theorem dX7_set_108 : decode cX7_set 108 = .ok (.iload 5, 2) := by decide +kernel
theorem dX7_set_110 : decode cX7_set 110 = .ok (.ifCond .ne 13, 3) := by decide +kernel
theorem dX7_set_113 : decode cX7_set 113 = .ok (.new 85, 3) := by decide +kernel
theorem dX7_set_116 : decode cX7_set 116 = .ok (.dup, 1) := by decide +kernel
theorem dX7_set_117 : decode cX7_set 117 = .ok (.ldc 186, 2) := by decide +kernel
theorem dX7_set_119 : decode cX7_set 119 = .ok (.invokespecial 89, 3) := by decide +kernel
theorem dX7_set_122 : decode cX7_set 122 = .ok (.athrow, 1) := by decide +kernel
theorem dX7_set_123 : decode cX7_set 123 = .ok (.aload 4, 2) := by decide +kernel
theorem dX7_set_125 : decode cX7_set 125 = .ok (.iload_n 2, 1) := by decide +kernel
theorem dX7_set_126 : decode cX7_set 126 = .ok (.putfield 188, 3) := by decide +kernel
theorem dX7_set_129 : decode cX7_set 129 = .ok (.aload 4, 2) := by decide +kernel
theorem dX7_set_131 : decode cX7_set 131 = .ok (.iload_n 3, 1) := by decide +kernel
theorem dX7_set_132 : decode cX7_set 132 = .ok (.putfield 191, 3) := by decide +kernel
theorem dX7_set_135 : decode cX7_set 135 = .ok (.aload_n 0, 1) := by decide +kernel
theorem dX7_set_136 : decode cX7_set 136 = .ok (.iload_n 2, 1) := by decide +kernel
theorem dX7_set_137 : decode cX7_set 137 = .ok (.invokevirtual 194, 3) := by decide +kernel
theorem dX7_set_140 : decode cX7_set 140 = .ok (.ireturn, 1) := by decide +kernel
theorem dX7_take_0 : decode cX7_take 0 = .ok (.aload_n 0, 1) := by decide +kernel
theorem dX7_take_1 : decode cX7_take 1 = .ok (.iload_n 1, 1) := by decide +kernel
theorem dX7_take_2 : decode cX7_take 2 = .ok (.invokevirtual 117, 3) := by decide +kernel
theorem dX7_take_5 : decode cX7_take 5 = .ok (.astore_n 2, 1) := by decide +kernel
theorem dX7_take_6 : decode cX7_take 6 = .ok (.aload_n 0, 1) := by decide +kernel
theorem dX7_take_7 : decode cX7_take 7 = .ok (.getfield 58, 3) := by decide +kernel
theorem dX7_take_10 : decode cX7_take 10 = .ok (.invokevirtual 161, 3) := by decide +kernel
theorem dX7_take_13 : decode cX7_take 13 = .ok (.ifCond .eq 11, 3) := by decide +kernel
theorem dX7_take_16 : decode cX7_take 16 = .ok (.aload_n 2, 1) := by decide +kernel
theorem dX7_take_17 : decode cX7_take 17 = .ok (.getfield 188, 3) := by decide +kernel
theorem dX7_take_20 : decode cX7_take 20 = .ok (.iconst (-1), 1) := by decide +kernel
theorem dX7_take_21 : decode cX7_take 21 = .ok (.if_icmp .ne 13, 3) := by decide +kernel
theorem dX7_take_24 : decode cX7_take 24 = .ok (.new 85, 3) := by decide +kernel
theorem dX7_take_27 : decode cX7_take 27 = .ok (.dup, 1) := by decide +kernel
theorem dX7_take_28 : decode cX7_take 28 = .ok (.ldc 197, 2) := by decide +kernel
theorem dX7_take_30 : decode cX7_take 30 = .ok (.invokespecial 89, 3) := by decide +kernel
theorem dX7_take_33 : decode cX7_take 33 = .ok (.athrow, 1) := by decide +kernel
theorem dX7_take_34 : decode cX7_take 34 = .ok (.aload_n 2, 1) := by decide +kernel
theorem dX7_take_35 : decode cX7_take 35 = .ok (.getfield 188, 3) := by decide +kernel
theorem dX7_take_38 : decode cX7_take 38 = .ok (.istore_n 3, 1) := by decide +kernel
theorem dX7_take_39 : decode cX7_take 39 = .ok (.aload_n 2, 1) := by decide +kernel
theorem dX7_take_40 : decode cX7_take 40 = .ok (.invokevirtual 199, 3) := by decide +kernel
theorem dX7_take_43 : decode cX7_take 43 = .ok (.iload_n 3, 1) := by decide +kernel
theorem dX7_take_44 : decode cX7_take 44 = .ok (.ireturn, 1) := by decide +kernel
theorem dX7_ramp_0 : decode cX7_ramp 0 = .ok (.iload_n 1, 1) := by decide +kernel
theorem dX7_ramp_1 : decode cX7_ramp 1 = .ok (.bipush 10, 2) := by decide +kernel
theorem dX7_ramp_3 : decode cX7_ramp 3 = .ok (.sipush 200, 3) := by decide +kernel
theorem dX7_ramp_6 : decode cX7_ramp 6 = .ok (.invokestatic 74, 3) := by decide +kernel
theorem dX7_ramp_9 : decode cX7_ramp 9 = .ok (.ifCond .eq 25, 3) := by decide +kernel
theorem dX7_ramp_12 : decode cX7_ramp 12 = .ok (.iload_n 2, 1) := by decide +kernel
theorem dX7_ramp_13 : decode cX7_ramp 13 = .ok (.bipush 100, 2) := by decide +kernel
theorem dX7_ramp_15 : decode cX7_ramp 15 = .ok (.sipush 1400, 3) := by decide +kernel
theorem dX7_ramp_18 : decode cX7_ramp 18 = .ok (.invokestatic 74, 3) := by decide +kernel
theorem dX7_ramp_21 : decode cX7_ramp 21 = .ok (.ifCond .eq 13, 3) := by decide +kernel
theorem dX7_ramp_24 : decode cX7_ramp 24 = .ok (.iload_n 3, 1) := by decide +kernel
theorem dX7_ramp_25 : decode cX7_ramp 25 = .ok (.iconst 0, 1) := by decide +kernel
theorem dX7_ramp_26 : decode cX7_ramp 26 = .ok (.bipush 20, 2) := by decide +kernel
theorem dX7_ramp_28 : decode cX7_ramp 28 = .ok (.invokestatic 74, 3) := by decide +kernel
theorem dX7_ramp_31 : decode cX7_ramp 31 = .ok (.ifCond .ne 13, 3) := by decide +kernel
theorem dX7_ramp_34 : decode cX7_ramp 34 = .ok (.new 78, 3) := by decide +kernel
theorem dX7_ramp_37 : decode cX7_ramp 37 = .ok (.dup, 1) := by decide +kernel
theorem dX7_ramp_38 : decode cX7_ramp 38 = .ok (.ldc 202, 2) := by decide +kernel
theorem dX7_ramp_40 : decode cX7_ramp 40 = .ok (.invokespecial 82, 3) := by decide +kernel
theorem dX7_ramp_43 : decode cX7_ramp 43 = .ok (.athrow, 1) := by decide +kernel
theorem dX7_ramp_44 : decode cX7_ramp 44 = .ok (.aload_n 0, 1) := by decide +kernel
theorem dX7_ramp_45 : decode cX7_ramp 45 = .ok (.getfield 58, 3) := by decide +kernel
theorem dX7_ramp_48 : decode cX7_ramp 48 = .ok (.getfield 204, 3) := by decide +kernel
theorem dX7_ramp_51 : decode cX7_ramp 51 = .ok (.ifCond .ne 21, 3) := by decide +kernel
theorem dX7_ramp_54 : decode cX7_ramp 54 = .ok (.aload_n 0, 1) := by decide +kernel
theorem dX7_ramp_55 : decode cX7_ramp 55 = .ok (.getfield 49, 3) := by decide +kernel
theorem dX7_ramp_58 : decode cX7_ramp 58 = .ok (.getfield 207, 3) := by decide +kernel
theorem dX7_ramp_61 : decode cX7_ramp 61 = .ok (.aload_n 0, 1) := by decide +kernel
theorem dX7_ramp_62 : decode cX7_ramp 62 = .ok (.getfield 49, 3) := by decide +kernel
theorem dX7_ramp_65 : decode cX7_ramp 65 = .ok (.getfield 210, 3) := by decide +kernel
theorem dX7_ramp_68 : decode cX7_ramp 68 = .ok (.arraylength, 1) := by decide +kernel
theorem dX7_ramp_69 : decode cX7_ramp 69 = .ok (.if_icmp .lt 13, 3) := by decide +kernel
theorem dX7_ramp_72 : decode cX7_ramp 72 = .ok (.new 85, 3) := by decide +kernel
theorem dX7_ramp_75 : decode cX7_ramp 75 = .ok (.dup, 1) := by decide +kernel
theorem dX7_ramp_76 : decode cX7_ramp 76 = .ok (.ldc 214, 2) := by decide +kernel
theorem dX7_ramp_78 : decode cX7_ramp 78 = .ok (.invokespecial 89, 3) := by decide +kernel
theorem dX7_ramp_81 : decode cX7_ramp 81 = .ok (.athrow, 1) := by decide +kernel
theorem dX7_ramp_82 : decode cX7_ramp 82 = .ok (.aload_n 0, 1) := by decide +kernel
theorem dX7_ramp_83 : decode cX7_ramp 83 = .ok (.getfield 49, 3) := by decide +kernel
theorem dX7_ramp_86 : decode cX7_ramp 86 = .ok (.getfield 210, 3) := by decide +kernel
theorem dX7_ramp_89 : decode cX7_ramp 89 = .ok (.aload_n 0, 1) := by decide +kernel
theorem dX7_ramp_90 : decode cX7_ramp 90 = .ok (.getfield 49, 3) := by decide +kernel
theorem dX7_ramp_93 : decode cX7_ramp 93 = .ok (.getfield 207, 3) := by decide +kernel
theorem dX7_ramp_96 : decode cX7_ramp 96 = .ok (.new 216, 3) := by decide +kernel
theorem dX7_ramp_99 : decode cX7_ramp 99 = .ok (.dup, 1) := by decide +kernel
theorem dX7_ramp_100 : decode cX7_ramp 100 = .ok (.iload_n 1, 1) := by decide +kernel
theorem dX7_ramp_101 : decode cX7_ramp 101 = .ok (.iload_n 2, 1) := by decide +kernel
theorem dX7_ramp_102 : decode cX7_ramp 102 = .ok (.iload_n 3, 1) := by decide +kernel
theorem dX7_ramp_103 : decode cX7_ramp 103 = .ok (.invokespecial 218, 3) := by decide +kernel
theorem dX7_ramp_106 : decode cX7_ramp 106 = .ok (.aastore, 1) := by decide +kernel
theorem dX7_ramp_107 : decode cX7_ramp 107 = .ok (.aload_n 0, 1) := by decide +kernel
theorem dX7_ramp_108 : decode cX7_ramp 108 = .ok (.getfield 49, 3) := by decide +kernel
theorem dX7_ramp_111 : decode cX7_ramp 111 = .ok (.dup, 1) := by decide +kernel
theorem dX7_ramp_112 : decode cX7_ramp 112 = .ok (.getfield 207, 3) := by decide +kernel
theorem dX7_ramp_115 : decode cX7_ramp 115 = .ok (.iconst 1, 1) := by decide +kernel
theorem dX7_ramp_116 : decode cX7_ramp 116 = .ok (.iadd, 1) := by decide +kernel
theorem dX7_ramp_117 : decode cX7_ramp 117 = .ok (.putfield 207, 3) := by decide +kernel
theorem dX7_ramp_120 : decode cX7_ramp 120 = .ok (.aload_n 0, 1) := by decide +kernel
theorem dX7_ramp_121 : decode cX7_ramp 121 = .ok (.getfield 49, 3) := by decide +kernel
theorem dX7_ramp_124 : decode cX7_ramp 124 = .ok (.getfield 207, 3) := by decide +kernel
theorem dX7_ramp_127 : decode cX7_ramp 127 = .ok (.iconst 1, 1) := by decide +kernel
theorem dX7_ramp_128 : decode cX7_ramp 128 = .ok (.isub, 1) := by decide +kernel
theorem dX7_ramp_129 : decode cX7_ramp 129 = .ok (.ireturn, 1) := by decide +kernel
theorem dX7_forget_0 : decode cX7_forget 0 = .ok (.aload_n 0, 1) := by decide +kernel
theorem dX7_forget_1 : decode cX7_forget 1 = .ok (.getfield 58, 3) := by decide +kernel
theorem dX7_forget_4 : decode cX7_forget 4 = .ok (.getfield 204, 3) := by decide +kernel
theorem dX7_forget_7 : decode cX7_forget 7 = .ok (.ifCond .eq 13, 3) := by decide +kernel
theorem dX7_forget_10 : decode cX7_forget 10 = .ok (.new 85, 3) := by decide +kernel
theorem dX7_forget_13 : decode cX7_forget 13 = .ok (.dup, 1) := by decide +kernel
theorem dX7_forget_14 : decode cX7_forget 14 = .ok (.ldc 221, 2) := by decide +kernel
theorem dX7_forget_16 : decode cX7_forget 16 = .ok (.invokespecial 89, 3) := by decide +kernel
theorem dX7_forget_19 : decode cX7_forget 19 = .ok (.athrow, 1) := by decide +kernel
theorem dX7_forget_20 : decode cX7_forget 20 = .ok (.aload_n 0, 1) := by decide +kernel
theorem dX7_forget_21 : decode cX7_forget 21 = .ok (.getfield 49, 3) := by decide +kernel
theorem dX7_forget_24 : decode cX7_forget 24 = .ok (.getfield 207, 3) := by decide +kernel
theorem dX7_forget_27 : decode cX7_forget 27 = .ok (.istore_n 1, 1) := by decide +kernel
theorem dX7_forget_28 : decode cX7_forget 28 = .ok (.aload_n 0, 1) := by decide +kernel
theorem dX7_forget_29 : decode cX7_forget 29 = .ok (.getfield 49, 3) := by decide +kernel
theorem dX7_forget_32 : decode cX7_forget 32 = .ok (.iconst 0, 1) := by decide +kernel
theorem dX7_forget_33 : decode cX7_forget 33 = .ok (.putfield 207, 3) := by decide +kernel
theorem dX7_forget_36 : decode cX7_forget 36 = .ok (.iload_n 1, 1) := by decide +kernel
theorem dX7_forget_37 : decode cX7_forget 37 = .ok (.ireturn, 1) := by decide +kernel
theorem dX7_light_0 : decode cX7_light 0 = .ok (.aload_n 0, 1) := by decide +kernel
theorem dX7_light_1 : decode cX7_light 1 = .ok (.getfield 58, 3) := by decide +kernel
theorem dX7_light_4 : decode cX7_light 4 = .ok (.getfield 204, 3) := by decide +kernel
theorem dX7_light_7 : decode cX7_light 7 = .ok (.ifCond .ne 13, 3) := by decide +kernel
theorem dX7_light_10 : decode cX7_light 10 = .ok (.aload_n 0, 1) := by decide +kernel
theorem dX7_light_11 : decode cX7_light 11 = .ok (.getfield 49, 3) := by decide +kernel
theorem dX7_light_14 : decode cX7_light 14 = .ok (.getfield 207, 3) := by decide +kernel
theorem dX7_light_17 : decode cX7_light 17 = .ok (.ifCond .ne 13, 3) := by decide +kernel
theorem dX7_light_20 : decode cX7_light 20 = .ok (.new 85, 3) := by decide +kernel
theorem dX7_light_23 : decode cX7_light 23 = .ok (.dup, 1) := by decide +kernel
theorem dX7_light_24 : decode cX7_light 24 = .ok (.ldc 223, 2) := by decide +kernel
theorem dX7_light_26 : decode cX7_light 26 = .ok (.invokespecial 89, 3) := by decide +kernel
theorem dX7_light_29 : decode cX7_light 29 = .ok (.athrow, 1) := by decide +kernel
theorem dX7_light_30 : decode cX7_light 30 = .ok (.aload_n 0, 1) := by decide +kernel
theorem dX7_light_31 : decode cX7_light 31 = .ok (.getfield 58, 3) := by decide +kernel
theorem dX7_light_34 : decode cX7_light 34 = .ok (.invokevirtual 225, 3) := by decide +kernel
theorem dX7_light_37 : decode cX7_light 37 = .ok (.iconst 0, 1) := by decide +kernel
theorem dX7_light_38 : decode cX7_light 38 = .ok (.istore_n 1, 1) := by decide +kernel
theorem dX7_light_39 : decode cX7_light 39 = .ok (.iconst 0, 1) := by decide +kernel
theorem dX7_light_40 : decode cX7_light 40 = .ok (.istore_n 2, 1) := by decide +kernel
theorem dX7_light_41 : decode cX7_light 41 = .ok (.iload_n 2, 1) := by decide +kernel
theorem dX7_light_42 : decode cX7_light 42 = .ok (.iconst 3, 1) := by decide +kernel
theorem dX7_light_43 : decode cX7_light 43 = .ok (.if_icmp .ge 17, 3) := by decide +kernel
theorem dX7_light_46 : decode cX7_light 46 = .ok (.iload_n 1, 1) := by decide +kernel
theorem dX7_light_47 : decode cX7_light 47 = .ok (.aload_n 0, 1) := by decide +kernel
theorem dX7_light_48 : decode cX7_light 48 = .ok (.iload_n 2, 1) := by decide +kernel
theorem dX7_light_49 : decode cX7_light 49 = .ok (.invokevirtual 228, 3) := by decide +kernel
theorem dX7_light_52 : decode cX7_light 52 = .ok (.iadd, 1) := by decide +kernel
theorem dX7_light_53 : decode cX7_light 53 = .ok (.istore_n 1, 1) := by decide +kernel
theorem dX7_light_54 : decode cX7_light 54 = .ok (.iinc 2 1, 3) := by decide +kernel
theorem dX7_light_57 : decode cX7_light 57 = .ok (.goto (-16), 3) := by decide +kernel
theorem dX7_light_60 : decode cX7_light 60 = .ok (.iload_n 1, 1) := by decide +kernel
theorem dX7_light_61 : decode cX7_light 61 = .ok (.ireturn, 1) := by decide +kernel
theorem dX7_burn_0 : decode cX7_burn 0 = .ok (.iload_n 1, 1) := by decide +kernel
theorem dX7_burn_1 : decode cX7_burn 1 = .ok (.invokestatic 231, 3) := by decide +kernel
theorem dX7_burn_4 : decode cX7_burn 4 = .ok (.iconst 0, 1) := by decide +kernel
theorem dX7_burn_5 : decode cX7_burn 5 = .ok (.istore_n 2, 1) := by decide +kernel
theorem dX7_burn_6 : decode cX7_burn 6 = .ok (.iload_n 2, 1) := by decide +kernel
theorem dX7_burn_7 : decode cX7_burn 7 = .ok (.iload_n 1, 1) := by decide +kernel
theorem dX7_burn_8 : decode cX7_burn 8 = .ok (.if_icmp .ge 20, 3) := by decide +kernel
theorem dX7_burn_11 : decode cX7_burn 11 = .ok (.aload_n 0, 1) := by decide +kernel
theorem dX7_burn_12 : decode cX7_burn 12 = .ok (.getfield 58, 3) := by decide +kernel
theorem dX7_burn_15 : decode cX7_burn 15 = .ok (.invokevirtual 234, 3) := by decide +kernel
theorem dX7_burn_18 : decode cX7_burn 18 = .ok (.aload_n 0, 1) := by decide +kernel
theorem dX7_burn_19 : decode cX7_burn 19 = .ok (.invokevirtual 237, 3) := by decide +kernel
theorem dX7_burn_22 : decode cX7_burn 22 = .ok (.iinc 2 1, 3) := by decide +kernel
theorem dX7_burn_25 : decode cX7_burn 25 = .ok (.goto (-19), 3) := by decide +kernel
theorem dX7_burn_28 : decode cX7_burn 28 = .ok (.aload_n 0, 1) := by decide +kernel
theorem dX7_burn_29 : decode cX7_burn 29 = .ok (.getfield 58, 3) := by decide +kernel
theorem dX7_burn_32 : decode cX7_burn 32 = .ok (.getfield 204, 3) := by decide +kernel
theorem dX7_burn_35 : decode cX7_burn 35 = .ok (.ireturn, 1) := by decide +kernel
theorem dX7_damper_0 : decode cX7_damper 0 = .ok (.iload_n 1, 1) := by decide +kernel
theorem dX7_damper_1 : decode cX7_damper 1 = .ok (.iconst 0, 1) := by decide +kernel
theorem dX7_damper_2 : decode cX7_damper 2 = .ok (.iconst 4, 1) := by decide +kernel
theorem dX7_damper_3 : decode cX7_damper 3 = .ok (.invokestatic 74, 3) := by decide +kernel
theorem dX7_damper_6 : decode cX7_damper 6 = .ok (.ifCond .ne 13, 3) := by decide +kernel
theorem dX7_damper_9 : decode cX7_damper 9 = .ok (.new 78, 3) := by decide +kernel
theorem dX7_damper_12 : decode cX7_damper 12 = .ok (.dup, 1) := by decide +kernel
theorem dX7_damper_13 : decode cX7_damper 13 = .ok (.ldc 240, 2) := by decide +kernel
theorem dX7_damper_15 : decode cX7_damper 15 = .ok (.invokespecial 82, 3) := by decide +kernel
theorem dX7_damper_18 : decode cX7_damper 18 = .ok (.athrow, 1) := by decide +kernel
theorem dX7_damper_19 : decode cX7_damper 19 = .ok (.aload_n 0, 1) := by decide +kernel
theorem dX7_damper_20 : decode cX7_damper 20 = .ok (.getfield 58, 3) := by decide +kernel
theorem dX7_damper_23 : decode cX7_damper 23 = .ok (.getfield 242, 3) := by decide +kernel
theorem dX7_damper_26 : decode cX7_damper 26 = .ok (.istore_n 2, 1) := by decide +kernel
theorem dX7_damper_27 : decode cX7_damper 27 = .ok (.aload_n 0, 1) := by decide +kernel
theorem dX7_damper_28 : decode cX7_damper 28 = .ok (.getfield 58, 3) := by decide +kernel
theorem dX7_damper_31 : decode cX7_damper 31 = .ok (.iload_n 1, 1) := by decide +kernel
theorem dX7_damper_32 : decode cX7_damper 32 = .ok (.putfield 242, 3) := by decide +kernel
theorem dX7_damper_35 : decode cX7_damper 35 = .ok (.iload_n 2, 1) := by decide +kernel
theorem dX7_damper_36 : decode cX7_damper 36 = .ok (.ireturn, 1) := by decide +kernel
theorem dX7_door_0 : decode cX7_door 0 = .ok (.aload_n 0, 1) := by decide +kernel
theorem dX7_door_1 : decode cX7_door 1 = .ok (.getfield 58, 3) := by decide +kernel
theorem dX7_door_4 : decode cX7_door 4 = .ok (.getfield 245, 3) := by decide +kernel
theorem dX7_door_7 : decode cX7_door 7 = .ok (.istore_n 2, 1) := by decide +kernel
theorem dX7_door_8 : decode cX7_door 8 = .ok (.aload_n 0, 1) := by decide +kernel
theorem dX7_door_9 : decode cX7_door 9 = .ok (.getfield 58, 3) := by decide +kernel
theorem dX7_door_12 : decode cX7_door 12 = .ok (.iload_n 1, 1) := by decide +kernel
theorem dX7_door_13 : decode cX7_door 13 = .ok (.putfield 245, 3) := by decide +kernel
theorem dX7_door_16 : decode cX7_door 16 = .ok (.iload_n 2, 1) := by decide +kernel
theorem dX7_door_17 : decode cX7_door 17 = .ok (.ireturn, 1) := by decide +kernel
theorem dX7_bell_0 : decode cX7_bell 0 = .ok (.aload_n 0, 1) := by decide +kernel
theorem dX7_bell_1 : decode cX7_bell 1 = .ok (.dup, 1) := by decide +kernel
theorem dX7_bell_2 : decode cX7_bell 2 = .ok (.getfield 71, 3) := by decide +kernel
theorem dX7_bell_5 : decode cX7_bell 5 = .ok (.iconst 1, 1) := by decide +kernel
theorem dX7_bell_6 : decode cX7_bell 6 = .ok (.iadd, 1) := by decide +kernel
theorem dX7_bell_7 : decode cX7_bell 7 = .ok (.putfield 71, 3) := by decide +kernel
theorem dX7_bell_10 : decode cX7_bell 10 = .ok (.aload_n 0, 1) := by decide +kernel
theorem dX7_bell_11 : decode cX7_bell 11 = .ok (.getfield 71, 3) := by decide +kernel
theorem dX7_bell_14 : decode cX7_bell 14 = .ok (.ireturn, 1) := by decide +kernel
theorem dX7_unload_0 : decode cX7_unload 0 = .ok (.aload_n 0, 1) := by decide +kernel
theorem dX7_unload_1 : decode cX7_unload 1 = .ok (.getfield 58, 3) := by decide +kernel
theorem dX7_unload_4 : decode cX7_unload 4 = .ok (.invokevirtual 161, 3) := by decide +kernel
theorem dX7_unload_7 : decode cX7_unload 7 = .ok (.ifCond .ne 13, 3) := by decide +kernel
theorem dX7_unload_10 : decode cX7_unload 10 = .ok (.new 85, 3) := by decide +kernel
theorem dX7_unload_13 : decode cX7_unload 13 = .ok (.dup, 1) := by decide +kernel
theorem dX7_unload_14 : decode cX7_unload 14 = .ok (.ldc 248, 2) := by decide +kernel
theorem dX7_unload_16 : decode cX7_unload 16 = .ok (.invokespecial 89, 3) := by decide +kernel
theorem dX7_unload_19 : decode cX7_unload 19 = .ok (.athrow, 1) := by decide +kernel
theorem dX7_unload_20 : decode cX7_unload 20 = .ok (.iconst 0, 1) := by decide +kernel
theorem dX7_unload_21 : decode cX7_unload 21 = .ok (.istore_n 1, 1) := by decide +kernel
theorem dX7_unload_22 : decode cX7_unload 22 = .ok (.aload_n 0, 1) := by decide +kernel
theorem dX7_unload_23 : decode cX7_unload 23 = .ok (.getfield 23, 3) := by decide +kernel
theorem dX7_unload_26 : decode cX7_unload 26 = .ok (.astore_n 2, 1) := by decide +kernel
theorem dX7_unload_27 : decode cX7_unload 27 = .ok (.aload_n 2, 1) := by decide +kernel
theorem dX7_unload_28 : decode cX7_unload 28 = .ok (.arraylength, 1) := by decide +kernel
theorem dX7_unload_29 : decode cX7_unload 29 = .ok (.istore_n 3, 1) := by decide +kernel
theorem dX7_unload_30 : decode cX7_unload 30 = .ok (.iconst 0, 1) := by decide +kernel
theorem dX7_unload_31 : decode cX7_unload 31 = .ok (.istore 4, 2) := by decide +kernel
theorem dX7_unload_33 : decode cX7_unload 33 = .ok (.iload 4, 2) := by decide +kernel
theorem dX7_unload_35 : decode cX7_unload 35 = .ok (.iload_n 3, 1) := by decide +kernel
theorem dX7_unload_36 : decode cX7_unload 36 = .ok (.if_icmp .ge 68, 3) := by decide +kernel
theorem dX7_unload_39 : decode cX7_unload 39 = .ok (.aload_n 2, 1) := by decide +kernel
theorem dX7_unload_40 : decode cX7_unload 40 = .ok (.iload 4, 2) := by decide +kernel
theorem dX7_unload_42 : decode cX7_unload 42 = .ok (.aaload, 1) := by decide +kernel
theorem dX7_unload_43 : decode cX7_unload 43 = .ok (.astore 5, 2) := by decide +kernel
theorem dX7_unload_45 : decode cX7_unload 45 = .ok (.aload 5, 2) := by decide +kernel
theorem dX7_unload_47 : decode cX7_unload 47 = .ok (.ifnull 51, 3) := by decide +kernel
theorem dX7_unload_50 : decode cX7_unload 50 = .ok (.aload 5, 2) := by decide +kernel
theorem dX7_unload_52 : decode cX7_unload 52 = .ok (.getfield 188, 3) := by decide +kernel
theorem dX7_unload_55 : decode cX7_unload 55 = .ok (.iconst (-1), 1) := by decide +kernel
theorem dX7_unload_56 : decode cX7_unload 56 = .ok (.if_icmp .eq 42, 3) := by decide +kernel
theorem dX7_unload_59 : decode cX7_unload 59 = .ok (.aload 5, 2) := by decide +kernel
theorem dX7_unload_61 : decode cX7_unload 61 = .ok (.aload_n 0, 1) := by decide +kernel
theorem dX7_unload_62 : decode cX7_unload 62 = .ok (.getfield 58, 3) := by decide +kernel
theorem dX7_unload_65 : decode cX7_unload 65 = .ok (.aload 5, 2) := by decide +kernel
theorem dX7_unload_67 : decode cX7_unload 67 = .ok (.getfield 188, 3) := by decide +kernel
theorem dX7_unload_70 : decode cX7_unload 70 = .ok (.invokevirtual 250, 3) := by decide +kernel
theorem dX7_unload_73 : decode cX7_unload 73 = .ok (.invokevirtual 253, 3) := by decide +kernel
theorem dX7_unload_76 : decode cX7_unload 76 = .ok (.aload 5, 2) := by decide +kernel
theorem dX7_unload_78 : decode cX7_unload 78 = .ok (.invokevirtual 199, 3) := by decide +kernel
theorem dX7_unload_81 : decode cX7_unload 81 = .ok (.iload_n 1, 1) := by decide +kernel
theorem dX7_unload_82 : decode cX7_unload 82 = .ok (.aload 5, 2) := by decide +kernel
theorem dX7_unload_84 : decode cX7_unload 84 = .ok (.getfield 141, 3) := by decide +kernel
theorem dX7_unload_87 : decode cX7_unload 87 = .ok (.iconst 5, 1) := by decide +kernel
theorem dX7_unload_88 : decode cX7_unload 88 = .ok (.if_icmp .ne 7, 3) := by decide +kernel
theorem dX7_unload_91 : decode cX7_unload 91 = .ok (.iconst 1, 1) := by decide +kernel
theorem dX7_unload_92 : decode cX7_unload 92 = .ok (.goto 4, 3) := by decide +kernel
theorem dX7_unload_95 : decode cX7_unload 95 = .ok (.iconst 0, 1) := by decide +kernel
theorem dX7_unload_96 : decode cX7_unload 96 = .ok (.iadd, 1) := by decide +kernel
theorem dX7_unload_97 : decode cX7_unload 97 = .ok (.istore_n 1, 1) := by decide +kernel
theorem dX7_unload_98 : decode cX7_unload 98 = .ok (.iinc 4 1, 3) := by decide +kernel
theorem dX7_unload_101 : decode cX7_unload 101 = .ok (.goto (-68), 3) := by decide +kernel
theorem dX7_unload_104 : decode cX7_unload 104 = .ok (.aload_n 0, 1) := by decide +kernel
theorem dX7_unload_105 : decode cX7_unload 105 = .ok (.getfield 58, 3) := by decide +kernel
theorem dX7_unload_108 : decode cX7_unload 108 = .ok (.invokevirtual 256, 3) := by decide +kernel
theorem dX7_unload_111 : decode cX7_unload 111 = .ok (.iload_n 1, 1) := by decide +kernel
theorem dX7_unload_112 : decode cX7_unload 112 = .ok (.ireturn, 1) := by decide +kernel
theorem dX7_order_0 : decode cX7_order 0 = .ok (.aload_n 0, 1) := by decide +kernel
theorem dX7_order_1 : decode cX7_order 1 = .ok (.iload_n 1, 1) := by decide +kernel
theorem dX7_order_2 : decode cX7_order 2 = .ok (.invokevirtual 137, 3) := by decide +kernel
theorem dX7_order_5 : decode cX7_order 5 = .ok (.astore 5, 2) := by decide +kernel
theorem dX7_order_7 : decode cX7_order 7 = .ok (.iload_n 2, 1) := by decide +kernel
theorem dX7_order_8 : decode cX7_order 8 = .ok (.iconst 0, 1) := by decide +kernel
theorem dX7_order_9 : decode cX7_order 9 = .ok (.iconst 2, 1) := by decide +kernel
theorem dX7_order_10 : decode cX7_order 10 = .ok (.invokestatic 74, 3) := by decide +kernel
theorem dX7_order_13 : decode cX7_order 13 = .ok (.ifCond .eq 24, 3) := by decide +kernel
theorem dX7_order_16 : decode cX7_order 16 = .ok (.iload_n 3, 1) := by decide +kernel
theorem dX7_order_17 : decode cX7_order 17 = .ok (.iconst 0, 1) := by decide +kernel
theorem dX7_order_18 : decode cX7_order 18 = .ok (.bipush 60, 2) := by decide +kernel
theorem dX7_order_20 : decode cX7_order 20 = .ok (.invokestatic 74, 3) := by decide +kernel
theorem dX7_order_23 : decode cX7_order 23 = .ok (.ifCond .eq 14, 3) := by decide +kernel
theorem dX7_order_26 : decode cX7_order 26 = .ok (.iload 4, 2) := by decide +kernel
theorem dX7_order_28 : decode cX7_order 28 = .ok (.iconst 1, 1) := by decide +kernel
theorem dX7_order_29 : decode cX7_order 29 = .ok (.bipush 99, 2) := by decide +kernel
theorem dX7_order_31 : decode cX7_order 31 = .ok (.invokestatic 74, 3) := by decide +kernel
theorem dX7_order_34 : decode cX7_order 34 = .ok (.ifCond .ne 14, 3) := by decide +kernel
theorem dX7_order_37 : decode cX7_order 37 = .ok (.new 78, 3) := by decide +kernel
theorem dX7_order_40 : decode cX7_order 40 = .ok (.dup, 1) := by decide +kernel
theorem dX7_order_41 : decode cX7_order 41 = .ok (.ldc_w 259, 3) := by decide +kernel
theorem dX7_order_44 : decode cX7_order 44 = .ok (.invokespecial 82, 3) := by decide +kernel
theorem dX7_order_47 : decode cX7_order 47 = .ok (.athrow, 1) := by decide +kernel
theorem dX7_order_48 : decode cX7_order 48 = .ok (.aload_n 0, 1) := by decide +kernel
theorem dX7_order_49 : decode cX7_order 49 = .ok (.getfield 43, 3) := by decide +kernel
theorem dX7_order_52 : decode cX7_order 52 = .ok (.aload_n 0, 1) := by decide +kernel
theorem dX7_order_53 : decode cX7_order 53 = .ok (.getfield 29, 3) := by decide +kernel
theorem dX7_order_56 : decode cX7_order 56 = .ok (.arraylength, 1) := by decide +kernel
theorem dX7_order_57 : decode cX7_order 57 = .ok (.if_icmp .lt 14, 3) := by decide +kernel
theorem dX7_order_60 : decode cX7_order 60 = .ok (.new 85, 3) := by decide +kernel
theorem dX7_order_63 : decode cX7_order 63 = .ok (.dup, 1) := by decide +kernel
theorem dX7_order_64 : decode cX7_order 64 = .ok (.ldc_w 261, 3) := by decide +kernel
theorem dX7_order_67 : decode cX7_order 67 = .ok (.invokespecial 89, 3) := by decide +kernel
theorem dX7_order_70 : decode cX7_order 70 = .ok (.athrow, 1) := by decide +kernel
theorem dX7_order_71 : decode cX7_order 71 = .ok (.aload_n 0, 1) := by decide +kernel
theorem dX7_order_72 : decode cX7_order 72 = .ok (.getfield 29, 3) := by decide +kernel
theorem dX7_order_75 : decode cX7_order 75 = .ok (.aload_n 0, 1) := by decide +kernel
theorem dX7_order_76 : decode cX7_order 76 = .ok (.getfield 43, 3) := by decide +kernel
theorem dX7_order_79 : decode cX7_order 79 = .ok (.new 27, 3) := by decide +kernel
theorem dX7_order_82 : decode cX7_order 82 = .ok (.dup, 1) := by decide +kernel
theorem dX7_order_83 : decode cX7_order 83 = .ok (.aload 5, 2) := by decide +kernel
theorem dX7_order_85 : decode cX7_order 85 = .ok (.getfield 263, 3) := by decide +kernel
theorem dX7_order_88 : decode cX7_order 88 = .ok (.iload_n 2, 1) := by decide +kernel
theorem dX7_order_89 : decode cX7_order 89 = .ok (.aload_n 0, 1) := by decide +kernel
theorem dX7_order_90 : decode cX7_order 90 = .ok (.getfield 65, 3) := by decide +kernel
theorem dX7_order_93 : decode cX7_order 93 = .ok (.iload_n 3, 1) := by decide +kernel
theorem dX7_order_94 : decode cX7_order 94 = .ok (.iadd, 1) := by decide +kernel
theorem dX7_order_95 : decode cX7_order 95 = .ok (.iload 4, 2) := by decide +kernel
theorem dX7_order_97 : decode cX7_order 97 = .ok (.invokespecial 266, 3) := by decide +kernel
theorem dX7_order_100 : decode cX7_order 100 = .ok (.aastore, 1) := by decide +kernel
theorem dX7_order_101 : decode cX7_order 101 = .ok (.aload_n 0, 1) := by decide +kernel
theorem dX7_order_102 : decode cX7_order 102 = .ok (.dup, 1) := by decide +kernel
theorem dX7_order_103 : decode cX7_order 103 = .ok (.getfield 43, 3) := by decide +kernel
theorem dX7_order_106 : decode cX7_order 106 = .ok (.iconst 1, 1) := by decide +kernel
theorem dX7_order_107 : decode cX7_order 107 = .ok (.iadd, 1) := by decide +kernel
theorem dX7_order_108 : decode cX7_order 108 = .ok (.putfield 43, 3) := by decide +kernel
theorem dX7_order_111 : decode cX7_order 111 = .ok (.aload_n 0, 1) := by decide +kernel
theorem dX7_order_112 : decode cX7_order 112 = .ok (.getfield 43, 3) := by decide +kernel
theorem dX7_order_115 : decode cX7_order 115 = .ok (.iconst 1, 1) := by decide +kernel
theorem dX7_order_116 : decode cX7_order 116 = .ok (.isub, 1) := by decide +kernel
theorem dX7_order_117 : decode cX7_order 117 = .ok (.ireturn, 1) := by decide +kernel
theorem dX7_meet_0 : decode cX7_meet 0 = .ok (.aload_n 0, 1) := by decide +kernel
theorem dX7_meet_1 : decode cX7_meet 1 = .ok (.iload_n 1, 1) := by decide +kernel
theorem dX7_meet_2 : decode cX7_meet 2 = .ok (.invokevirtual 269, 3) := by decide +kernel
theorem dX7_meet_5 : decode cX7_meet 5 = .ok (.astore_n 3, 1) := by decide +kernel
theorem dX7_meet_6 : decode cX7_meet 6 = .ok (.aload_n 0, 1) := by decide +kernel
theorem dX7_meet_7 : decode cX7_meet 7 = .ok (.iload_n 2, 1) := by decide +kernel
theorem dX7_meet_8 : decode cX7_meet 8 = .ok (.invokevirtual 117, 3) := by decide +kernel
theorem dX7_meet_11 : decode cX7_meet 11 = .ok (.astore 4, 2) := by decide +kernel
theorem dX7_meet_13 : decode cX7_meet 13 = .ok (.aload_n 3, 1) := by decide +kernel
theorem dX7_meet_14 : decode cX7_meet 14 = .ok (.getfield 273, 3) := by decide +kernel
theorem dX7_meet_17 : decode cX7_meet 17 = .ok (.ifCond .ne 12, 3) := by decide +kernel
theorem dX7_meet_20 : decode cX7_meet 20 = .ok (.aload 4, 2) := by decide +kernel
theorem dX7_meet_22 : decode cX7_meet 22 = .ok (.getfield 141, 3) := by decide +kernel
theorem dX7_meet_25 : decode cX7_meet 25 = .ok (.iconst 4, 1) := by decide +kernel
theorem dX7_meet_26 : decode cX7_meet 26 = .ok (.if_icmp .eq 14, 3) := by decide +kernel
theorem dX7_meet_29 : decode cX7_meet 29 = .ok (.new 85, 3) := by decide +kernel
theorem dX7_meet_32 : decode cX7_meet 32 = .ok (.dup, 1) := by decide +kernel
theorem dX7_meet_33 : decode cX7_meet 33 = .ok (.ldc_w 276, 3) := by decide +kernel
theorem dX7_meet_36 : decode cX7_meet 36 = .ok (.invokespecial 89, 3) := by decide +kernel
theorem dX7_meet_39 : decode cX7_meet 39 = .ok (.athrow, 1) := by decide +kernel
theorem dX7_meet_40 : decode cX7_meet 40 = .ok (.aload 4, 2) := by decide +kernel
theorem dX7_meet_42 : decode cX7_meet 42 = .ok (.invokevirtual 278, 3) := by decide +kernel
theorem dX7_meet_45 : decode cX7_meet 45 = .ok (.aload_n 3, 1) := by decide +kernel
theorem dX7_meet_46 : decode cX7_meet 46 = .ok (.getfield 282, 3) := by decide +kernel
theorem dX7_meet_49 : decode cX7_meet 49 = .ok (.if_icmp .ne 15, 3) := by decide +kernel
theorem dX7_meet_52 : decode cX7_meet 52 = .ok (.aload 4, 2) := by decide +kernel
theorem dX7_meet_54 : decode cX7_meet 54 = .ok (.invokevirtual 284, 3) := by decide +kernel
theorem dX7_meet_57 : decode cX7_meet 57 = .ok (.aload_n 3, 1) := by decide +kernel
theorem dX7_meet_58 : decode cX7_meet 58 = .ok (.getfield 287, 3) := by decide +kernel
theorem dX7_meet_61 : decode cX7_meet 61 = .ok (.if_icmp .eq 14, 3) := by decide +kernel
theorem dX7_meet_64 : decode cX7_meet 64 = .ok (.new 85, 3) := by decide +kernel
theorem dX7_meet_67 : decode cX7_meet 67 = .ok (.dup, 1) := by decide +kernel
theorem dX7_meet_68 : decode cX7_meet 68 = .ok (.ldc_w 289, 3) := by decide +kernel
theorem dX7_meet_71 : decode cX7_meet 71 = .ok (.invokespecial 89, 3) := by decide +kernel
theorem dX7_meet_74 : decode cX7_meet 74 = .ok (.athrow, 1) := by decide +kernel
theorem dX7_meet_75 : decode cX7_meet 75 = .ok (.aload_n 3, 1) := by decide +kernel
theorem dX7_meet_76 : decode cX7_meet 76 = .ok (.aload 4, 2) := by decide +kernel
theorem dX7_meet_78 : decode cX7_meet 78 = .ok (.aload_n 0, 1) := by decide +kernel
theorem dX7_meet_79 : decode cX7_meet 79 = .ok (.getfield 65, 3) := by decide +kernel
theorem dX7_meet_82 : decode cX7_meet 82 = .ok (.invokevirtual 291, 3) := by decide +kernel
theorem dX7_meet_85 : decode cX7_meet 85 = .ok (.istore 5, 2) := by decide +kernel
theorem dX7_meet_87 : decode cX7_meet 87 = .ok (.aload_n 3, 1) := by decide +kernel
theorem dX7_meet_88 : decode cX7_meet 88 = .ok (.iconst 1, 1) := by decide +kernel
theorem dX7_meet_89 : decode cX7_meet 89 = .ok (.putfield 273, 3) := by decide +kernel
theorem dX7_meet_92 : decode cX7_meet 92 = .ok (.aload 4, 2) := by decide +kernel
theorem dX7_meet_94 : decode cX7_meet 94 = .ok (.bipush 6, 2) := by decide +kernel
theorem dX7_meet_96 : decode cX7_meet 96 = .ok (.putfield 141, 3) := by decide +kernel
theorem dX7_meet_99 : decode cX7_meet 99 = .ok (.aload_n 0, 1) := by decide +kernel
theorem dX7_meet_100 : decode cX7_meet 100 = .ok (.dup, 1) := by decide +kernel
theorem dX7_meet_101 : decode cX7_meet 101 = .ok (.getfield 68, 3) := by decide +kernel
theorem dX7_meet_104 : decode cX7_meet 104 = .ok (.iload 5, 2) := by decide +kernel
theorem dX7_meet_106 : decode cX7_meet 106 = .ok (.iadd, 1) := by decide +kernel
theorem dX7_meet_107 : decode cX7_meet 107 = .ok (.putfield 68, 3) := by decide +kernel
theorem dX7_meet_110 : decode cX7_meet 110 = .ok (.iload 5, 2) := by decide +kernel
theorem dX7_meet_112 : decode cX7_meet 112 = .ok (.ireturn, 1) := by decide +kernel
theorem dX7_ofPot_0 : decode cX7_ofPot 0 = .ok (.aload_n 0, 1) := by decide +kernel
theorem dX7_ofPot_1 : decode cX7_ofPot 1 = .ok (.iload_n 1, 1) := by decide +kernel
theorem dX7_ofPot_2 : decode cX7_ofPot 2 = .ok (.invokevirtual 117, 3) := by decide +kernel
theorem dX7_ofPot_5 : decode cX7_ofPot 5 = .ok (.astore_n 3, 1) := by decide +kernel
theorem dX7_ofPot_6 : decode cX7_ofPot 6 = .ok (.iload_n 2, 1) := by decide +kernel
theorem dX7_ofPot_7 : decode cX7_ofPot 7 = .ok (.tableswitch 93 0 7 #[45, 50, 55, 60, 65, 70, 75, 80], 45) := by decide +kernel
theorem dX7_ofPot_52 : decode cX7_ofPot 52 = .ok (.aload_n 3, 1) := by decide +kernel
theorem dX7_ofPot_53 : decode cX7_ofPot 53 = .ok (.getfield 141, 3) := by decide +kernel
theorem dX7_ofPot_56 : decode cX7_ofPot 56 = .ok (.ireturn, 1) := by decide +kernel
theorem dX7_ofPot_57 : decode cX7_ofPot 57 = .ok (.aload_n 3, 1) := by decide +kernel
theorem dX7_ofPot_58 : decode cX7_ofPot 58 = .ok (.invokevirtual 278, 3) := by decide +kernel
theorem dX7_ofPot_61 : decode cX7_ofPot 61 = .ok (.ireturn, 1) := by decide +kernel
theorem dX7_ofPot_62 : decode cX7_ofPot 62 = .ok (.aload_n 3, 1) := by decide +kernel
theorem dX7_ofPot_63 : decode cX7_ofPot 63 = .ok (.getfield 295, 3) := by decide +kernel
theorem dX7_ofPot_66 : decode cX7_ofPot 66 = .ok (.ireturn, 1) := by decide +kernel
theorem dX7_ofPot_67 : decode cX7_ofPot 67 = .ok (.aload_n 3, 1) := by decide +kernel
theorem dX7_ofPot_68 : decode cX7_ofPot 68 = .ok (.getfield 188, 3) := by decide +kernel
theorem dX7_ofPot_71 : decode cX7_ofPot 71 = .ok (.ireturn, 1) := by decide +kernel
theorem dX7_ofPot_72 : decode cX7_ofPot 72 = .ok (.aload_n 3, 1) := by decide +kernel
theorem dX7_ofPot_73 : decode cX7_ofPot 73 = .ok (.getfield 191, 3) := by decide +kernel
theorem dX7_ofPot_76 : decode cX7_ofPot 76 = .ok (.ireturn, 1) := by decide +kernel
theorem dX7_ofPot_77 : decode cX7_ofPot 77 = .ok (.aload_n 3, 1) := by decide +kernel
theorem dX7_ofPot_78 : decode cX7_ofPot 78 = .ok (.getfield 298, 3) := by decide +kernel
theorem dX7_ofPot_81 : decode cX7_ofPot 81 = .ok (.ireturn, 1) := by decide +kernel
theorem dX7_ofPot_82 : decode cX7_ofPot 82 = .ok (.aload_n 3, 1) := by decide +kernel
theorem dX7_ofPot_83 : decode cX7_ofPot 83 = .ok (.invokevirtual 284, 3) := by decide +kernel
theorem dX7_ofPot_86 : decode cX7_ofPot 86 = .ok (.ireturn, 1) := by decide +kernel
theorem dX7_ofPot_87 : decode cX7_ofPot 87 = .ok (.aload_n 3, 1) := by decide +kernel
theorem dX7_ofPot_88 : decode cX7_ofPot 88 = .ok (.getfield 121, 3) := by decide +kernel
theorem dX7_ofPot_91 : decode cX7_ofPot 91 = .ok (.ifCond .eq 7, 3) := by decide +kernel
theorem dX7_ofPot_94 : decode cX7_ofPot 94 = .ok (.iconst 1, 1) := by decide +kernel
theorem dX7_ofPot_95 : decode cX7_ofPot 95 = .ok (.goto 4, 3) := by decide +kernel
theorem dX7_ofPot_98 : decode cX7_ofPot 98 = .ok (.iconst 0, 1) := by decide +kernel
theorem dX7_ofPot_99 : decode cX7_ofPot 99 = .ok (.ireturn, 1) := by decide +kernel
theorem dX7_ofPot_100 : decode cX7_ofPot 100 = .ok (.new 78, 3) := by decide +kernel
theorem dX7_ofPot_103 : decode cX7_ofPot 103 = .ok (.dup, 1) := by decide +kernel
theorem dX7_ofPot_104 : decode cX7_ofPot 104 = .ok (.ldc_w 301, 3) := by decide +kernel
theorem dX7_ofPot_107 : decode cX7_ofPot 107 = .ok (.invokespecial 82, 3) := by decide +kernel
theorem dX7_ofPot_110 : decode cX7_ofPot 110 = .ok (.athrow, 1) := by decide +kernel
theorem dX7_water_0 : decode cX7_water 0 = .ok (.aload_n 0, 1) := by decide +kernel
theorem dX7_water_1 : decode cX7_water 1 = .ok (.iload_n 1, 1) := by decide +kernel
theorem dX7_water_2 : decode cX7_water 2 = .ok (.invokevirtual 117, 3) := by decide +kernel
theorem dX7_water_5 : decode cX7_water 5 = .ok (.getfield 303, 3) := by decide +kernel
theorem dX7_water_8 : decode cX7_water 8 = .ok (.f2d, 1) := by decide +kernel
theorem dX7_water_9 : decode cX7_water 9 = .ok (.dreturn, 1) := by decide +kernel
theorem dX7_ofGlaze_0 : decode cX7_ofGlaze 0 = .ok (.aload_n 0, 1) := by decide +kernel
theorem dX7_ofGlaze_1 : decode cX7_ofGlaze 1 = .ok (.iload_n 1, 1) := by decide +kernel
theorem dX7_ofGlaze_2 : decode cX7_ofGlaze 2 = .ok (.invokevirtual 137, 3) := by decide +kernel
theorem dX7_ofGlaze_5 : decode cX7_ofGlaze 5 = .ok (.astore_n 3, 1) := by decide +kernel
theorem dX7_ofGlaze_6 : decode cX7_ofGlaze 6 = .ok (.iload_n 2, 1) := by decide +kernel
theorem dX7_ofGlaze_7 : decode cX7_ofGlaze 7 = .ok (.tableswitch 41 0 2 #[25, 30, 35], 25) := by decide +kernel
theorem dX7_ofGlaze_32 : decode cX7_ofGlaze 32 = .ok (.aload_n 3, 1) := by decide +kernel
theorem dX7_ofGlaze_33 : decode cX7_ofGlaze 33 = .ok (.getfield 307, 3) := by decide +kernel
theorem dX7_ofGlaze_36 : decode cX7_ofGlaze 36 = .ok (.dreturn, 1) := by decide +kernel
theorem dX7_ofGlaze_37 : decode cX7_ofGlaze 37 = .ok (.aload_n 3, 1) := by decide +kernel
theorem dX7_ofGlaze_38 : decode cX7_ofGlaze 38 = .ok (.invokevirtual 311, 3) := by decide +kernel
theorem dX7_ofGlaze_41 : decode cX7_ofGlaze 41 = .ok (.dreturn, 1) := by decide +kernel
theorem dX7_ofGlaze_42 : decode cX7_ofGlaze 42 = .ok (.aload_n 3, 1) := by decide +kernel
theorem dX7_ofGlaze_43 : decode cX7_ofGlaze 43 = .ok (.getfield 150, 3) := by decide +kernel
theorem dX7_ofGlaze_46 : decode cX7_ofGlaze 46 = .ok (.i2d, 1) := by decide +kernel
theorem dX7_ofGlaze_47 : decode cX7_ofGlaze 47 = .ok (.dreturn, 1) := by decide +kernel
theorem dX7_ofGlaze_48 : decode cX7_ofGlaze 48 = .ok (.new 78, 3) := by decide +kernel
theorem dX7_ofGlaze_51 : decode cX7_ofGlaze 51 = .ok (.dup, 1) := by decide +kernel
theorem dX7_ofGlaze_52 : decode cX7_ofGlaze 52 = .ok (.ldc_w 315, 3) := by decide +kernel
theorem dX7_ofGlaze_55 : decode cX7_ofGlaze 55 = .ok (.invokespecial 82, 3) := by decide +kernel
theorem dX7_ofGlaze_58 : decode cX7_ofGlaze 58 = .ok (.athrow, 1) := by decide +kernel
theorem dX7_kiln_0 : decode cX7_kiln 0 = .ok (.iload_n 1, 1) := by decide +kernel
theorem dX7_kiln_1 : decode cX7_kiln 1 = .ok (.tableswitch 91 0 5 #[39, 47, 56, 64, 73, 82], 39) := by decide +kernel
theorem dX7_kiln_40 : decode cX7_kiln 40 = .ok (.aload_n 0, 1) := by decide +kernel
theorem dX7_kiln_41 : decode cX7_kiln 41 = .ok (.getfield 58, 3) := by decide +kernel
theorem dX7_kiln_44 : decode cX7_kiln 44 = .ok (.getfield 317, 3) := by decide +kernel
theorem dX7_kiln_47 : decode cX7_kiln 47 = .ok (.dreturn, 1) := by decide +kernel
theorem dX7_kiln_48 : decode cX7_kiln 48 = .ok (.aload_n 0, 1) := by decide +kernel
theorem dX7_kiln_49 : decode cX7_kiln 49 = .ok (.getfield 58, 3) := by decide +kernel
theorem dX7_kiln_52 : decode cX7_kiln 52 = .ok (.getfield 320, 3) := by decide +kernel
theorem dX7_kiln_55 : decode cX7_kiln 55 = .ok (.f2d, 1) := by decide +kernel
theorem dX7_kiln_56 : decode cX7_kiln 56 = .ok (.dreturn, 1) := by decide +kernel
theorem dX7_kiln_57 : decode cX7_kiln 57 = .ok (.aload_n 0, 1) := by decide +kernel
theorem dX7_kiln_58 : decode cX7_kiln 58 = .ok (.getfield 58, 3) := by decide +kernel
theorem dX7_kiln_61 : decode cX7_kiln 61 = .ok (.invokevirtual 323, 3) := by decide +kernel
theorem dX7_kiln_64 : decode cX7_kiln 64 = .ok (.dreturn, 1) := by decide +kernel
theorem dX7_kiln_65 : decode cX7_kiln 65 = .ok (.aload_n 0, 1) := by decide +kernel
theorem dX7_kiln_66 : decode cX7_kiln 66 = .ok (.getfield 58, 3) := by decide +kernel
theorem dX7_kiln_69 : decode cX7_kiln 69 = .ok (.iconst 0, 1) := by decide +kernel
theorem dX7_kiln_70 : decode cX7_kiln 70 = .ok (.invokevirtual 326, 3) := by decide +kernel
theorem dX7_kiln_73 : decode cX7_kiln 73 = .ok (.dreturn, 1) := by decide +kernel
theorem dX7_kiln_74 : decode cX7_kiln 74 = .ok (.aload_n 0, 1) := by decide +kernel
theorem dX7_kiln_75 : decode cX7_kiln 75 = .ok (.getfield 58, 3) := by decide +kernel
theorem dX7_kiln_78 : decode cX7_kiln 78 = .ok (.iconst 1, 1) := by decide +kernel
theorem dX7_kiln_79 : decode cX7_kiln 79 = .ok (.invokevirtual 326, 3) := by decide +kernel
theorem dX7_kiln_82 : decode cX7_kiln 82 = .ok (.dreturn, 1) := by decide +kernel
theorem dX7_kiln_83 : decode cX7_kiln 83 = .ok (.aload_n 0, 1) := by decide +kernel
theorem dX7_kiln_84 : decode cX7_kiln 84 = .ok (.getfield 58, 3) := by decide +kernel
theorem dX7_kiln_87 : decode cX7_kiln 87 = .ok (.iconst 2, 1) := by decide +kernel
theorem dX7_kiln_88 : decode cX7_kiln 88 = .ok (.invokevirtual 326, 3) := by decide +kernel
theorem dX7_kiln_91 : decode cX7_kiln 91 = .ok (.dreturn, 1) := by decide +kernel
theorem dX7_kiln_92 : decode cX7_kiln 92 = .ok (.new 78, 3) := by decide +kernel
theorem dX7_kiln_95 : decode cX7_kiln 95 = .ok (.dup, 1) := by decide +kernel
theorem dX7_kiln_96 : decode cX7_kiln 96 = .ok (.ldc_w 330, 3) := by decide +kernel
theorem dX7_kiln_99 : decode cX7_kiln 99 = .ok (.invokespecial 82, 3) := by decide +kernel
theorem dX7_kiln_102 : decode cX7_kiln 102 = .ok (.athrow, 1) := by decide +kernel
theorem dX7_ofShelf_0 : decode cX7_ofShelf 0 = .ok (.iload_n 1, 1) := by decide +kernel
theorem dX7_ofShelf_1 : decode cX7_ofShelf 1 = .ok (.invokestatic 153, 3) := by decide +kernel
theorem dX7_ofShelf_4 : decode cX7_ofShelf 4 = .ok (.iload_n 2, 1) := by decide +kernel
theorem dX7_ofShelf_5 : decode cX7_ofShelf 5 = .ok (.tableswitch 58 0 3 #[31, 40, 46, 52], 31) := by decide +kernel
theorem dX7_ofShelf_36 : decode cX7_ofShelf 36 = .ok (.aload_n 0, 1) := by decide +kernel
theorem dX7_ofShelf_37 : decode cX7_ofShelf 37 = .ok (.getfield 58, 3) := by decide +kernel
theorem dX7_ofShelf_40 : decode cX7_ofShelf 40 = .ok (.iload_n 1, 1) := by decide +kernel
theorem dX7_ofShelf_41 : decode cX7_ofShelf 41 = .ok (.invokevirtual 250, 3) := by decide +kernel
theorem dX7_ofShelf_44 : decode cX7_ofShelf 44 = .ok (.ireturn, 1) := by decide +kernel
theorem dX7_ofShelf_45 : decode cX7_ofShelf 45 = .ok (.aload_n 0, 1) := by decide +kernel
theorem dX7_ofShelf_46 : decode cX7_ofShelf 46 = .ok (.iload_n 1, 1) := by decide +kernel
theorem dX7_ofShelf_47 : decode cX7_ofShelf 47 = .ok (.invokevirtual 194, 3) := by decide +kernel
theorem dX7_ofShelf_50 : decode cX7_ofShelf 50 = .ok (.ireturn, 1) := by decide +kernel
theorem dX7_ofShelf_51 : decode cX7_ofShelf 51 = .ok (.aload_n 0, 1) := by decide +kernel
theorem dX7_ofShelf_52 : decode cX7_ofShelf 52 = .ok (.iload_n 1, 1) := by decide +kernel
theorem dX7_ofShelf_53 : decode cX7_ofShelf 53 = .ok (.invokevirtual 228, 3) := by decide +kernel
theorem dX7_ofShelf_56 : decode cX7_ofShelf 56 = .ok (.ireturn, 1) := by decide +kernel
theorem dX7_ofShelf_57 : decode cX7_ofShelf 57 = .ok (.aload_n 0, 1) := by decide +kernel
theorem dX7_ofShelf_58 : decode cX7_ofShelf 58 = .ok (.iload_n 1, 1) := by decide +kernel
theorem dX7_ofShelf_59 : decode cX7_ofShelf 59 = .ok (.invokevirtual 332, 3) := by decide +kernel
theorem dX7_ofShelf_62 : decode cX7_ofShelf 62 = .ok (.ireturn, 1) := by decide +kernel
theorem dX7_ofShelf_63 : decode cX7_ofShelf 63 = .ok (.new 78, 3) := by decide +kernel
theorem dX7_ofShelf_66 : decode cX7_ofShelf 66 = .ok (.dup, 1) := by decide +kernel
theorem dX7_ofShelf_67 : decode cX7_ofShelf 67 = .ok (.ldc_w 335, 3) := by decide +kernel
theorem dX7_ofShelf_70 : decode cX7_ofShelf 70 = .ok (.invokespecial 82, 3) := by decide +kernel
theorem dX7_ofShelf_73 : decode cX7_ofShelf 73 = .ok (.athrow, 1) := by decide +kernel
theorem dX7_many_0 : decode cX7_many 0 = .ok (.iload_n 1, 1) := by decide +kernel
theorem dX7_many_1 : decode cX7_many 1 = .ok (.tableswitch 231 0 15 #[79, 84, 92, 108, 130, 152, 160, 165, 171, 177, 184, 192, 200, 205, 210, 215], 79) := by decide +kernel
theorem dX7_many_80 : decode cX7_many 80 = .ok (.aload_n 0, 1) := by decide +kernel
theorem dX7_many_81 : decode cX7_many 81 = .ok (.getfield 65, 3) := by decide +kernel
theorem dX7_many_84 : decode cX7_many 84 = .ok (.ireturn, 1) := by decide +kernel
theorem dX7_many_85 : decode cX7_many 85 = .ok (.aload_n 0, 1) := by decide +kernel
theorem dX7_many_86 : decode cX7_many 86 = .ok (.getfield 58, 3) := by decide +kernel
theorem dX7_many_89 : decode cX7_many 89 = .ok (.getfield 337, 3) := by decide +kernel
theorem dX7_many_92 : decode cX7_many 92 = .ok (.ireturn, 1) := by decide +kernel
theorem dX7_many_93 : decode cX7_many 93 = .ok (.aload_n 0, 1) := by decide +kernel
theorem dX7_many_94 : decode cX7_many 94 = .ok (.getfield 58, 3) := by decide +kernel
theorem dX7_many_97 : decode cX7_many 97 = .ok (.getfield 204, 3) := by decide +kernel
theorem dX7_many_100 : decode cX7_many 100 = .ok (.ifCond .eq 7, 3) := by decide +kernel
theorem dX7_many_103 : decode cX7_many 103 = .ok (.iconst 1, 1) := by decide +kernel
theorem dX7_many_104 : decode cX7_many 104 = .ok (.goto 4, 3) := by decide +kernel
theorem dX7_many_107 : decode cX7_many 107 = .ok (.iconst 0, 1) := by decide +kernel
theorem dX7_many_108 : decode cX7_many 108 = .ok (.ireturn, 1) := by decide +kernel
theorem dX7_many_109 : decode cX7_many 109 = .ok (.aload_n 0, 1) := by decide +kernel
theorem dX7_many_110 : decode cX7_many 110 = .ok (.getfield 58, 3) := by decide +kernel
theorem dX7_many_113 : decode cX7_many 113 = .ok (.getfield 204, 3) := by decide +kernel
theorem dX7_many_116 : decode cX7_many 116 = .ok (.ifCond .eq 13, 3) := by decide +kernel
theorem dX7_many_119 : decode cX7_many 119 = .ok (.aload_n 0, 1) := by decide +kernel
theorem dX7_many_120 : decode cX7_many 120 = .ok (.getfield 58, 3) := by decide +kernel
theorem dX7_many_123 : decode cX7_many 123 = .ok (.getfield 340, 3) := by decide +kernel
theorem dX7_many_126 : decode cX7_many 126 = .ok (.goto 4, 3) := by decide +kernel
theorem dX7_many_129 : decode cX7_many 129 = .ok (.iconst (-1), 1) := by decide +kernel
theorem dX7_many_130 : decode cX7_many 130 = .ok (.ireturn, 1) := by decide +kernel
theorem dX7_many_131 : decode cX7_many 131 = .ok (.aload_n 0, 1) := by decide +kernel
theorem dX7_many_132 : decode cX7_many 132 = .ok (.getfield 58, 3) := by decide +kernel
theorem dX7_many_135 : decode cX7_many 135 = .ok (.getfield 204, 3) := by decide +kernel
theorem dX7_many_138 : decode cX7_many 138 = .ok (.ifCond .eq 13, 3) := by decide +kernel
theorem dX7_many_141 : decode cX7_many 141 = .ok (.aload_n 0, 1) := by decide +kernel
theorem dX7_many_142 : decode cX7_many 142 = .ok (.getfield 58, 3) := by decide +kernel
theorem dX7_many_145 : decode cX7_many 145 = .ok (.getfield 343, 3) := by decide +kernel
theorem dX7_many_148 : decode cX7_many 148 = .ok (.goto 4, 3) := by decide +kernel
theorem dX7_many_151 : decode cX7_many 151 = .ok (.iconst 0, 1) := by decide +kernel
theorem dX7_many_152 : decode cX7_many 152 = .ok (.ireturn, 1) := by decide +kernel
theorem dX7_many_153 : decode cX7_many 153 = .ok (.aload_n 0, 1) := by decide +kernel
theorem dX7_many_154 : decode cX7_many 154 = .ok (.getfield 49, 3) := by decide +kernel
theorem dX7_many_157 : decode cX7_many 157 = .ok (.getfield 207, 3) := by decide +kernel
theorem dX7_many_160 : decode cX7_many 160 = .ok (.ireturn, 1) := by decide +kernel
theorem dX7_many_161 : decode cX7_many 161 = .ok (.aload_n 0, 1) := by decide +kernel
theorem dX7_many_162 : decode cX7_many 162 = .ok (.getfield 40, 3) := by decide +kernel
theorem dX7_many_165 : decode cX7_many 165 = .ok (.ireturn, 1) := by decide +kernel
theorem dX7_many_166 : decode cX7_many 166 = .ok (.aload_n 0, 1) := by decide +kernel
theorem dX7_many_167 : decode cX7_many 167 = .ok (.iconst 4, 1) := by decide +kernel
theorem dX7_many_168 : decode cX7_many 168 = .ok (.invokevirtual 133, 3) := by decide +kernel
theorem dX7_many_171 : decode cX7_many 171 = .ok (.ireturn, 1) := by decide +kernel
theorem dX7_many_172 : decode cX7_many 172 = .ok (.aload_n 0, 1) := by decide +kernel
theorem dX7_many_173 : decode cX7_many 173 = .ok (.iconst 5, 1) := by decide +kernel
theorem dX7_many_174 : decode cX7_many 174 = .ok (.invokevirtual 133, 3) := by decide +kernel
theorem dX7_many_177 : decode cX7_many 177 = .ok (.ireturn, 1) := by decide +kernel
theorem dX7_many_178 : decode cX7_many 178 = .ok (.aload_n 0, 1) := by decide +kernel
theorem dX7_many_179 : decode cX7_many 179 = .ok (.bipush 6, 2) := by decide +kernel
theorem dX7_many_181 : decode cX7_many 181 = .ok (.invokevirtual 133, 3) := by decide +kernel
theorem dX7_many_184 : decode cX7_many 184 = .ok (.ireturn, 1) := by decide +kernel
theorem dX7_many_185 : decode cX7_many 185 = .ok (.aload_n 0, 1) := by decide +kernel
theorem dX7_many_186 : decode cX7_many 186 = .ok (.getfield 58, 3) := by decide +kernel
theorem dX7_many_189 : decode cX7_many 189 = .ok (.getfield 346, 3) := by decide +kernel
theorem dX7_many_192 : decode cX7_many 192 = .ok (.ireturn, 1) := by decide +kernel
theorem dX7_many_193 : decode cX7_many 193 = .ok (.aload_n 0, 1) := by decide +kernel
theorem dX7_many_194 : decode cX7_many 194 = .ok (.getfield 58, 3) := by decide +kernel
theorem dX7_many_197 : decode cX7_many 197 = .ok (.getfield 349, 3) := by decide +kernel
theorem dX7_many_200 : decode cX7_many 200 = .ok (.ireturn, 1) := by decide +kernel
theorem dX7_many_201 : decode cX7_many 201 = .ok (.aload_n 0, 1) := by decide +kernel
theorem dX7_many_202 : decode cX7_many 202 = .ok (.getfield 68, 3) := by decide +kernel
theorem dX7_many_205 : decode cX7_many 205 = .ok (.ireturn, 1) := by decide +kernel
theorem dX7_many_206 : decode cX7_many 206 = .ok (.aload_n 0, 1) := by decide +kernel
theorem dX7_many_207 : decode cX7_many 207 = .ok (.invokevirtual 352, 3) := by decide +kernel
theorem dX7_many_210 : decode cX7_many 210 = .ok (.ireturn, 1) := by decide +kernel
theorem dX7_many_211 : decode cX7_many 211 = .ok (.aload_n 0, 1) := by decide +kernel
theorem dX7_many_212 : decode cX7_many 212 = .ok (.getfield 71, 3) := by decide +kernel
theorem dX7_many_215 : decode cX7_many 215 = .ok (.ireturn, 1) := by decide +kernel
theorem dX7_many_216 : decode cX7_many 216 = .ok (.aload_n 0, 1) := by decide +kernel
theorem dX7_many_217 : decode cX7_many 217 = .ok (.getfield 58, 3) := by decide +kernel
theorem dX7_many_220 : decode cX7_many 220 = .ok (.getfield 245, 3) := by decide +kernel
theorem dX7_many_223 : decode cX7_many 223 = .ok (.ifCond .eq 7, 3) := by decide +kernel
theorem dX7_many_226 : decode cX7_many 226 = .ok (.iconst 1, 1) := by decide +kernel
theorem dX7_many_227 : decode cX7_many 227 = .ok (.goto 4, 3) := by decide +kernel
theorem dX7_many_230 : decode cX7_many 230 = .ok (.iconst 0, 1) := by decide +kernel
theorem dX7_many_231 : decode cX7_many 231 = .ok (.ireturn, 1) := by decide +kernel
theorem dX7_many_232 : decode cX7_many 232 = .ok (.new 78, 3) := by decide +kernel
theorem dX7_many_235 : decode cX7_many 235 = .ok (.dup, 1) := by decide +kernel
theorem dX7_many_236 : decode cX7_many 236 = .ok (.ldc_w 355, 3) := by decide +kernel
theorem dX7_many_239 : decode cX7_many 239 = .ok (.invokespecial 82, 3) := by decide +kernel
theorem dX7_many_242 : decode cX7_many 242 = .ok (.athrow, 1) := by decide +kernel
theorem dX7_wouldCone_0 : decode cX7_wouldCone 0 = .ok (.iload_n 1, 1) := by decide +kernel
theorem dX7_wouldCone_1 : decode cX7_wouldCone 1 = .ok (.invokestatic 153, 3) := by decide +kernel
theorem dX7_wouldCone_4 : decode cX7_wouldCone 4 = .ok (.iload_n 2, 1) := by decide +kernel
theorem dX7_wouldCone_5 : decode cX7_wouldCone 5 = .ok (.invokestatic 231, 3) := by decide +kernel
theorem dX7_wouldCone_8 : decode cX7_wouldCone 8 = .ok (.aload_n 0, 1) := by decide +kernel
theorem dX7_wouldCone_9 : decode cX7_wouldCone 9 = .ok (.getfield 62, 3) := by decide +kernel
theorem dX7_wouldCone_12 : decode cX7_wouldCone 12 = .ok (.aload_n 0, 1) := by decide +kernel
theorem dX7_wouldCone_13 : decode cX7_wouldCone 13 = .ok (.getfield 58, 3) := by decide +kernel
theorem dX7_wouldCone_16 : decode cX7_wouldCone 16 = .ok (.invokevirtual 357, 3) := by decide +kernel
theorem dX7_wouldCone_19 : decode cX7_wouldCone 19 = .ok (.iconst 0, 1) := by decide +kernel
theorem dX7_wouldCone_20 : decode cX7_wouldCone 20 = .ok (.istore_n 3, 1) := by decide +kernel
theorem dX7_wouldCone_21 : decode cX7_wouldCone 21 = .ok (.iload_n 3, 1) := by decide +kernel
theorem dX7_wouldCone_22 : decode cX7_wouldCone 22 = .ok (.iload_n 2, 1) := by decide +kernel
theorem dX7_wouldCone_23 : decode cX7_wouldCone 23 = .ok (.if_icmp .ge 16, 3) := by decide +kernel
theorem dX7_wouldCone_26 : decode cX7_wouldCone 26 = .ok (.aload_n 0, 1) := by decide +kernel
theorem dX7_wouldCone_27 : decode cX7_wouldCone 27 = .ok (.getfield 62, 3) := by decide +kernel
theorem dX7_wouldCone_30 : decode cX7_wouldCone 30 = .ok (.invokevirtual 234, 3) := by decide +kernel
theorem dX7_wouldCone_33 : decode cX7_wouldCone 33 = .ok (.iinc 3 1, 3) := by decide +kernel
theorem dX7_wouldCone_36 : decode cX7_wouldCone 36 = .ok (.goto (-15), 3) := by decide +kernel
theorem dX7_wouldCone_39 : decode cX7_wouldCone 39 = .ok (.aload_n 0, 1) := by decide +kernel
theorem dX7_wouldCone_40 : decode cX7_wouldCone 40 = .ok (.getfield 62, 3) := by decide +kernel
theorem dX7_wouldCone_43 : decode cX7_wouldCone 43 = .ok (.iload_n 1, 1) := by decide +kernel
theorem dX7_wouldCone_44 : decode cX7_wouldCone 44 = .ok (.invokevirtual 250, 3) := by decide +kernel
theorem dX7_wouldCone_47 : decode cX7_wouldCone 47 = .ok (.ireturn, 1) := by decide +kernel
theorem dX7_wouldEnd_0 : decode cX7_wouldEnd 0 = .ok (.aload_n 0, 1) := by decide +kernel
theorem dX7_wouldEnd_1 : decode cX7_wouldEnd 1 = .ok (.getfield 62, 3) := by decide +kernel
theorem dX7_wouldEnd_4 : decode cX7_wouldEnd 4 = .ok (.aload_n 0, 1) := by decide +kernel
theorem dX7_wouldEnd_5 : decode cX7_wouldEnd 5 = .ok (.getfield 58, 3) := by decide +kernel
theorem dX7_wouldEnd_8 : decode cX7_wouldEnd 8 = .ok (.invokevirtual 357, 3) := by decide +kernel
theorem dX7_wouldEnd_11 : decode cX7_wouldEnd 11 = .ok (.iconst 0, 1) := by decide +kernel
theorem dX7_wouldEnd_12 : decode cX7_wouldEnd 12 = .ok (.istore_n 1, 1) := by decide +kernel
theorem dX7_wouldEnd_13 : decode cX7_wouldEnd 13 = .ok (.iload_n 1, 1) := by decide +kernel
theorem dX7_wouldEnd_14 : decode cX7_wouldEnd 14 = .ok (.sipush 300, 3) := by decide +kernel
theorem dX7_wouldEnd_17 : decode cX7_wouldEnd 17 = .ok (.if_icmp .ge 28, 3) := by decide +kernel
theorem dX7_wouldEnd_20 : decode cX7_wouldEnd 20 = .ok (.aload_n 0, 1) := by decide +kernel
theorem dX7_wouldEnd_21 : decode cX7_wouldEnd 21 = .ok (.getfield 62, 3) := by decide +kernel
theorem dX7_wouldEnd_24 : decode cX7_wouldEnd 24 = .ok (.getfield 204, 3) := by decide +kernel
theorem dX7_wouldEnd_27 : decode cX7_wouldEnd 27 = .ok (.ifCond .ne 5, 3) := by decide +kernel
theorem dX7_wouldEnd_30 : decode cX7_wouldEnd 30 = .ok (.iload_n 1, 1) := by decide +kernel
theorem dX7_wouldEnd_31 : decode cX7_wouldEnd 31 = .ok (.ireturn, 1) := by decide +kernel
theorem dX7_wouldEnd_32 : decode cX7_wouldEnd 32 = .ok (.aload_n 0, 1) := by decide +kernel
theorem dX7_wouldEnd_33 : decode cX7_wouldEnd 33 = .ok (.getfield 62, 3) := by decide +kernel
theorem dX7_wouldEnd_36 : decode cX7_wouldEnd 36 = .ok (.invokevirtual 234, 3) := by decide +kernel
theorem dX7_wouldEnd_39 : decode cX7_wouldEnd 39 = .ok (.iinc 1 1, 3) := by decide +kernel
theorem dX7_wouldEnd_42 : decode cX7_wouldEnd 42 = .ok (.goto (-29), 3) := by decide +kernel
theorem dX7_wouldEnd_45 : decode cX7_wouldEnd 45 = .ok (.aload_n 0, 1) := by decide +kernel
theorem dX7_wouldEnd_46 : decode cX7_wouldEnd 46 = .ok (.getfield 62, 3) := by decide +kernel
theorem dX7_wouldEnd_49 : decode cX7_wouldEnd 49 = .ok (.getfield 204, 3) := by decide +kernel
theorem dX7_wouldEnd_52 : decode cX7_wouldEnd 52 = .ok (.ifCond .eq 7, 3) := by decide +kernel
theorem dX7_wouldEnd_55 : decode cX7_wouldEnd 55 = .ok (.iconst (-1), 1) := by decide +kernel
theorem dX7_wouldEnd_56 : decode cX7_wouldEnd 56 = .ok (.goto 6, 3) := by decide +kernel
theorem dX7_wouldEnd_59 : decode cX7_wouldEnd 59 = .ok (.sipush 300, 3) := by decide +kernel
theorem dX7_wouldEnd_62 : decode cX7_wouldEnd 62 = .ok (.ireturn, 1) := by decide +kernel
theorem dX7_best_0 : decode cX7_best 0 = .ok (.aload_n 0, 1) := by decide +kernel
theorem dX7_best_1 : decode cX7_best 1 = .ok (.iload_n 1, 1) := by decide +kernel
theorem dX7_best_2 : decode cX7_best 2 = .ok (.invokevirtual 106, 3) := by decide +kernel
theorem dX7_best_5 : decode cX7_best 5 = .ok (.astore_n 3, 1) := by decide +kernel
theorem dX7_best_6 : decode cX7_best 6 = .ok (.iload_n 2, 1) := by decide +kernel
theorem dX7_best_7 : decode cX7_best 7 = .ok (.iconst 1, 1) := by decide +kernel
theorem dX7_best_8 : decode cX7_best 8 = .ok (.bipush 12, 2) := by decide +kernel
theorem dX7_best_10 : decode cX7_best 10 = .ok (.invokestatic 74, 3) := by decide +kernel
theorem dX7_best_13 : decode cX7_best 13 = .ok (.ifCond .ne 14, 3) := by decide +kernel
theorem dX7_best_16 : decode cX7_best 16 = .ok (.new 78, 3) := by decide +kernel
theorem dX7_best_19 : decode cX7_best 19 = .ok (.dup, 1) := by decide +kernel
theorem dX7_best_20 : decode cX7_best 20 = .ok (.ldc_w 361, 3) := by decide +kernel
theorem dX7_best_23 : decode cX7_best 23 = .ok (.invokespecial 82, 3) := by decide +kernel
theorem dX7_best_26 : decode cX7_best 26 = .ok (.athrow, 1) := by decide +kernel
theorem dX7_best_27 : decode cX7_best 27 = .ok (.aconst_null, 1) := by decide +kernel
theorem dX7_best_28 : decode cX7_best 28 = .ok (.astore 4, 2) := by decide +kernel
theorem dX7_best_30 : decode cX7_best 30 = .ok (.aload_n 0, 1) := by decide +kernel
theorem dX7_best_31 : decode cX7_best 31 = .ok (.getfield 17, 3) := by decide +kernel
theorem dX7_best_34 : decode cX7_best 34 = .ok (.astore 5, 2) := by decide +kernel
theorem dX7_best_36 : decode cX7_best 36 = .ok (.aload 5, 2) := by decide +kernel
theorem dX7_best_38 : decode cX7_best 38 = .ok (.arraylength, 1) := by decide +kernel
theorem dX7_best_39 : decode cX7_best 39 = .ok (.istore 6, 2) := by decide +kernel
theorem dX7_best_41 : decode cX7_best 41 = .ok (.iconst 0, 1) := by decide +kernel
theorem dX7_best_42 : decode cX7_best 42 = .ok (.istore 7, 2) := by decide +kernel
theorem dX7_best_44 : decode cX7_best 44 = .ok (.iload 7, 2) := by decide +kernel
theorem dX7_best_46 : decode cX7_best 46 = .ok (.iload 6, 2) := by decide +kernel
theorem dX7_best_48 : decode cX7_best 48 = .ok (.if_icmp .ge 56, 3) := by decide +kernel
theorem dX7_best_51 : decode cX7_best 51 = .ok (.aload 5, 2) := by decide +kernel
theorem dX7_best_53 : decode cX7_best 53 = .ok (.iload 7, 2) := by decide +kernel
theorem dX7_best_55 : decode cX7_best 55 = .ok (.aaload, 1) := by decide +kernel
theorem dX7_best_56 : decode cX7_best 56 = .ok (.astore 8, 2) := by decide +kernel
theorem dX7_best_58 : decode cX7_best 58 = .ok (.aload 8, 2) := by decide +kernel
theorem dX7_best_60 : decode cX7_best 60 = .ok (.ifnull 38, 3) := by decide +kernel
theorem dX7_best_63 : decode cX7_best 63 = .ok (.aload 8, 2) := by decide +kernel
theorem dX7_best_65 : decode cX7_best 65 = .ok (.aload_n 3, 1) := by decide +kernel
theorem dX7_best_66 : decode cX7_best 66 = .ok (.iload_n 2, 1) := by decide +kernel
theorem dX7_best_67 : decode cX7_best 67 = .ok (.invokevirtual 363, 3) := by decide +kernel
theorem dX7_best_70 : decode cX7_best 70 = .ok (.ifCond .ne 28, 3) := by decide +kernel
theorem dX7_best_73 : decode cX7_best 73 = .ok (.aload 4, 2) := by decide +kernel
theorem dX7_best_75 : decode cX7_best 75 = .ok (.ifnull 19, 3) := by decide +kernel
theorem dX7_best_78 : decode cX7_best 78 = .ok (.aload 8, 2) := by decide +kernel
theorem dX7_best_80 : decode cX7_best 80 = .ok (.aload_n 3, 1) := by decide +kernel
theorem dX7_best_81 : decode cX7_best 81 = .ok (.invokevirtual 367, 3) := by decide +kernel
theorem dX7_best_84 : decode cX7_best 84 = .ok (.aload 4, 2) := by decide +kernel
theorem dX7_best_86 : decode cX7_best 86 = .ok (.aload_n 3, 1) := by decide +kernel
theorem dX7_best_87 : decode cX7_best 87 = .ok (.invokevirtual 367, 3) := by decide +kernel
theorem dX7_best_90 : decode cX7_best 90 = .ok (.dcmp .g, 1) := by decide +kernel
theorem dX7_best_91 : decode cX7_best 91 = .ok (.ifCond .ge 7, 3) := by decide +kernel
theorem dX7_best_94 : decode cX7_best 94 = .ok (.aload 8, 2) := by decide +kernel
theorem dX7_best_96 : decode cX7_best 96 = .ok (.astore 4, 2) := by decide +kernel
theorem dX7_best_98 : decode cX7_best 98 = .ok (.iinc 7 1, 3) := by decide +kernel
theorem dX7_best_101 : decode cX7_best 101 = .ok (.goto (-57), 3) := by decide +kernel
theorem dX7_best_104 : decode cX7_best 104 = .ok (.aload 4, 2) := by decide +kernel
theorem dX7_best_106 : decode cX7_best 106 = .ok (.ifnonnull 7, 3) := by decide +kernel
theorem dX7_best_109 : decode cX7_best 109 = .ok (.iconst (-1), 1) := by decide +kernel
theorem dX7_best_110 : decode cX7_best 110 = .ok (.goto 8, 3) := by decide +kernel
theorem dX7_best_113 : decode cX7_best 113 = .ok (.aload 4, 2) := by decide +kernel
theorem dX7_best_115 : decode cX7_best 115 = .ok (.getfield 263, 3) := by decide +kernel
theorem dX7_best_118 : decode cX7_best 118 = .ok (.ireturn, 1) := by decide +kernel
theorem dX7_wouldHold_0 : decode cX7_wouldHold 0 = .ok (.iload_n 1, 1) := by decide +kernel
theorem dX7_wouldHold_1 : decode cX7_wouldHold 1 = .ok (.invokestatic 153, 3) := by decide +kernel
theorem dX7_wouldHold_4 : decode cX7_wouldHold 4 = .ok (.aload_n 0, 1) := by decide +kernel
theorem dX7_wouldHold_5 : decode cX7_wouldHold 5 = .ok (.iload_n 1, 1) := by decide +kernel
theorem dX7_wouldHold_6 : decode cX7_wouldHold 6 = .ok (.invokestatic 171, 3) := by decide +kernel
theorem dX7_wouldHold_9 : decode cX7_wouldHold 9 = .ok (.invokevirtual 371, 3) := by decide +kernel
theorem dX7_wouldHold_12 : decode cX7_wouldHold 12 = .ok (.istore_n 2, 1) := by decide +kernel
theorem dX7_wouldHold_13 : decode cX7_wouldHold 13 = .ok (.aload_n 0, 1) := by decide +kernel
theorem dX7_wouldHold_14 : decode cX7_wouldHold 14 = .ok (.iload_n 1, 1) := by decide +kernel
theorem dX7_wouldHold_15 : decode cX7_wouldHold 15 = .ok (.invokevirtual 332, 3) := by decide +kernel
theorem dX7_wouldHold_18 : decode cX7_wouldHold 18 = .ok (.istore_n 3, 1) := by decide +kernel
theorem dX7_wouldHold_19 : decode cX7_wouldHold 19 = .ok (.iload_n 3, 1) := by decide +kernel
theorem dX7_wouldHold_20 : decode cX7_wouldHold 20 = .ok (.ifCond .le 19, 3) := by decide +kernel
theorem dX7_wouldHold_23 : decode cX7_wouldHold 23 = .ok (.iload_n 2, 1) := by decide +kernel
theorem dX7_wouldHold_24 : decode cX7_wouldHold 24 = .ok (.iload_n 3, 1) := by decide +kernel
theorem dX7_wouldHold_25 : decode cX7_wouldHold 25 = .ok (.ishr, 1) := by decide +kernel
theorem dX7_wouldHold_26 : decode cX7_wouldHold 26 = .ok (.iconst 1, 1) := by decide +kernel
theorem dX7_wouldHold_27 : decode cX7_wouldHold 27 = .ok (.iand, 1) := by decide +kernel
theorem dX7_wouldHold_28 : decode cX7_wouldHold 28 = .ok (.ifCond .eq 5, 3) := by decide +kernel
theorem dX7_wouldHold_31 : decode cX7_wouldHold 31 = .ok (.iload_n 3, 1) := by decide +kernel
theorem dX7_wouldHold_32 : decode cX7_wouldHold 32 = .ok (.ireturn, 1) := by decide +kernel
theorem dX7_wouldHold_33 : decode cX7_wouldHold 33 = .ok (.iinc 3 (-1), 3) := by decide +kernel
theorem dX7_wouldHold_36 : decode cX7_wouldHold 36 = .ok (.goto (-17), 3) := by decide +kernel
theorem dX7_wouldHold_39 : decode cX7_wouldHold 39 = .ok (.iconst 0, 1) := by decide +kernel
theorem dX7_wouldHold_40 : decode cX7_wouldHold 40 = .ok (.ireturn, 1) := by decide +kernel
theorem dX7_digest_0 : decode cX7_digest 0 = .ok (.ldc2_w 374, 3) := by decide +kernel
theorem dX7_digest_3 : decode cX7_digest 3 = .ok (.lstore_n 1, 1) := by decide +kernel
theorem dX7_digest_4 : decode cX7_digest 4 = .ok (.iconst 0, 1) := by decide +kernel
theorem dX7_digest_5 : decode cX7_digest 5 = .ok (.istore_n 3, 1) := by decide +kernel
theorem dX7_digest_6 : decode cX7_digest 6 = .ok (.iload_n 3, 1) := by decide +kernel
theorem dX7_digest_7 : decode cX7_digest 7 = .ok (.bipush 16, 2) := by decide +kernel
theorem dX7_digest_9 : decode cX7_digest 9 = .ok (.if_icmp .ge 22, 3) := by decide +kernel
theorem dX7_digest_12 : decode cX7_digest 12 = .ok (.lload_n 1, 1) := by decide +kernel
theorem dX7_digest_13 : decode cX7_digest 13 = .ok (.ldc2_w 376, 3) := by decide +kernel
theorem dX7_digest_16 : decode cX7_digest 16 = .ok (.lmul, 1) := by decide +kernel
theorem dX7_digest_17 : decode cX7_digest 17 = .ok (.aload_n 0, 1) := by decide +kernel
theorem dX7_digest_18 : decode cX7_digest 18 = .ok (.iload_n 3, 1) := by decide +kernel
theorem dX7_digest_19 : decode cX7_digest 19 = .ok (.invokevirtual 378, 3) := by decide +kernel
theorem dX7_digest_22 : decode cX7_digest 22 = .ok (.i2l, 1) := by decide +kernel
theorem dX7_digest_23 : decode cX7_digest 23 = .ok (.ladd, 1) := by decide +kernel
theorem dX7_digest_24 : decode cX7_digest 24 = .ok (.lstore_n 1, 1) := by decide +kernel
theorem dX7_digest_25 : decode cX7_digest 25 = .ok (.iinc 3 1, 3) := by decide +kernel
theorem dX7_digest_28 : decode cX7_digest 28 = .ok (.goto (-22), 3) := by decide +kernel
theorem dX7_digest_31 : decode cX7_digest 31 = .ok (.iconst 0, 1) := by decide +kernel
theorem dX7_digest_32 : decode cX7_digest 32 = .ok (.istore_n 3, 1) := by decide +kernel
theorem dX7_digest_33 : decode cX7_digest 33 = .ok (.iload_n 3, 1) := by decide +kernel
theorem dX7_digest_34 : decode cX7_digest 34 = .ok (.aload_n 0, 1) := by decide +kernel
theorem dX7_digest_35 : decode cX7_digest 35 = .ok (.getfield 40, 3) := by decide +kernel
theorem dX7_digest_38 : decode cX7_digest 38 = .ok (.if_icmp .ge 16, 3) := by decide +kernel
theorem dX7_digest_41 : decode cX7_digest 41 = .ok (.aload_n 0, 1) := by decide +kernel
theorem dX7_digest_42 : decode cX7_digest 42 = .ok (.lload_n 1, 1) := by decide +kernel
theorem dX7_digest_43 : decode cX7_digest 43 = .ok (.iload_n 3, 1) := by decide +kernel
theorem dX7_digest_44 : decode cX7_digest 44 = .ok (.invokevirtual 381, 3) := by decide +kernel
theorem dX7_digest_47 : decode cX7_digest 47 = .ok (.lstore_n 1, 1) := by decide +kernel
theorem dX7_digest_48 : decode cX7_digest 48 = .ok (.iinc 3 1, 3) := by decide +kernel
theorem dX7_digest_51 : decode cX7_digest 51 = .ok (.goto (-18), 3) := by decide +kernel
theorem dX7_digest_54 : decode cX7_digest 54 = .ok (.iconst 0, 1) := by decide +kernel
theorem dX7_digest_55 : decode cX7_digest 55 = .ok (.istore_n 3, 1) := by decide +kernel
theorem dX7_digest_56 : decode cX7_digest 56 = .ok (.iload_n 3, 1) := by decide +kernel
theorem dX7_digest_57 : decode cX7_digest 57 = .ok (.aload_n 0, 1) := by decide +kernel
theorem dX7_digest_58 : decode cX7_digest 58 = .ok (.getfield 37, 3) := by decide +kernel
theorem dX7_digest_61 : decode cX7_digest 61 = .ok (.if_icmp .ge 41, 3) := by decide +kernel
theorem dX7_digest_64 : decode cX7_digest 64 = .ok (.lload_n 1, 1) := by decide +kernel
theorem dX7_digest_65 : decode cX7_digest 65 = .ok (.ldc2_w 376, 3) := by decide +kernel
theorem dX7_digest_68 : decode cX7_digest 68 = .ok (.lmul, 1) := by decide +kernel
theorem dX7_digest_69 : decode cX7_digest 69 = .ok (.ldc2_w 385, 3) := by decide +kernel
theorem dX7_digest_72 : decode cX7_digest 72 = .ok (.aload_n 0, 1) := by decide +kernel
theorem dX7_digest_73 : decode cX7_digest 73 = .ok (.iload_n 3, 1) := by decide +kernel
theorem dX7_digest_74 : decode cX7_digest 74 = .ok (.iconst 0, 1) := by decide +kernel
theorem dX7_digest_75 : decode cX7_digest 75 = .ok (.invokevirtual 387, 3) := by decide +kernel
theorem dX7_digest_78 : decode cX7_digest 78 = .ok (.dmul, 1) := by decide +kernel
theorem dX7_digest_79 : decode cX7_digest 79 = .ok (.d2l, 1) := by decide +kernel
theorem dX7_digest_80 : decode cX7_digest 80 = .ok (.ladd, 1) := by decide +kernel
theorem dX7_digest_81 : decode cX7_digest 81 = .ok (.lstore_n 1, 1) := by decide +kernel
theorem dX7_digest_82 : decode cX7_digest 82 = .ok (.lload_n 1, 1) := by decide +kernel
theorem dX7_digest_83 : decode cX7_digest 83 = .ok (.ldc2_w 376, 3) := by decide +kernel
theorem dX7_digest_86 : decode cX7_digest 86 = .ok (.lmul, 1) := by decide +kernel
theorem dX7_digest_87 : decode cX7_digest 87 = .ok (.aload_n 0, 1) := by decide +kernel
theorem dX7_digest_88 : decode cX7_digest 88 = .ok (.iload_n 3, 1) := by decide +kernel
theorem dX7_digest_89 : decode cX7_digest 89 = .ok (.iconst 2, 1) := by decide +kernel
theorem dX7_digest_90 : decode cX7_digest 90 = .ok (.invokevirtual 387, 3) := by decide +kernel
theorem dX7_digest_93 : decode cX7_digest 93 = .ok (.d2l, 1) := by decide +kernel
theorem dX7_digest_94 : decode cX7_digest 94 = .ok (.ladd, 1) := by decide +kernel
theorem dX7_digest_95 : decode cX7_digest 95 = .ok (.lstore_n 1, 1) := by decide +kernel
theorem dX7_digest_96 : decode cX7_digest 96 = .ok (.iinc 3 1, 3) := by decide +kernel
theorem dX7_digest_99 : decode cX7_digest 99 = .ok (.goto (-43), 3) := by decide +kernel
theorem dX7_digest_102 : decode cX7_digest 102 = .ok (.iconst 0, 1) := by decide +kernel
theorem dX7_digest_103 : decode cX7_digest 103 = .ok (.istore_n 3, 1) := by decide +kernel
theorem dX7_digest_104 : decode cX7_digest 104 = .ok (.iload_n 3, 1) := by decide +kernel
theorem dX7_digest_105 : decode cX7_digest 105 = .ok (.iconst 3, 1) := by decide +kernel
theorem dX7_digest_106 : decode cX7_digest 106 = .ok (.if_icmp .ge 16, 3) := by decide +kernel
theorem dX7_digest_109 : decode cX7_digest 109 = .ok (.aload_n 0, 1) := by decide +kernel
theorem dX7_digest_110 : decode cX7_digest 110 = .ok (.lload_n 1, 1) := by decide +kernel
theorem dX7_digest_111 : decode cX7_digest 111 = .ok (.iload_n 3, 1) := by decide +kernel
theorem dX7_digest_112 : decode cX7_digest 112 = .ok (.invokevirtual 391, 3) := by decide +kernel
theorem dX7_digest_115 : decode cX7_digest 115 = .ok (.lstore_n 1, 1) := by decide +kernel
theorem dX7_digest_116 : decode cX7_digest 116 = .ok (.iinc 3 1, 3) := by decide +kernel
theorem dX7_digest_119 : decode cX7_digest 119 = .ok (.goto (-15), 3) := by decide +kernel
theorem dX7_digest_122 : decode cX7_digest 122 = .ok (.lload_n 1, 1) := by decide +kernel
theorem dX7_digest_123 : decode cX7_digest 123 = .ok (.ldc2_w 376, 3) := by decide +kernel
theorem dX7_digest_126 : decode cX7_digest 126 = .ok (.lmul, 1) := by decide +kernel
theorem dX7_digest_127 : decode cX7_digest 127 = .ok (.ldc2_w 385, 3) := by decide +kernel
theorem dX7_digest_130 : decode cX7_digest 130 = .ok (.aload_n 0, 1) := by decide +kernel
theorem dX7_digest_131 : decode cX7_digest 131 = .ok (.iconst 0, 1) := by decide +kernel
theorem dX7_digest_132 : decode cX7_digest 132 = .ok (.invokevirtual 394, 3) := by decide +kernel
theorem dX7_digest_135 : decode cX7_digest 135 = .ok (.dmul, 1) := by decide +kernel
theorem dX7_digest_136 : decode cX7_digest 136 = .ok (.d2l, 1) := by decide +kernel
theorem dX7_digest_137 : decode cX7_digest 137 = .ok (.ladd, 1) := by decide +kernel
theorem dX7_digest_138 : decode cX7_digest 138 = .ok (.lstore_n 1, 1) := by decide +kernel
theorem dX7_digest_139 : decode cX7_digest 139 = .ok (.lload_n 1, 1) := by decide +kernel
theorem dX7_digest_140 : decode cX7_digest 140 = .ok (.ldc2_w 376, 3) := by decide +kernel
theorem dX7_digest_143 : decode cX7_digest 143 = .ok (.lmul, 1) := by decide +kernel
theorem dX7_digest_144 : decode cX7_digest 144 = .ok (.ldc2_w 385, 3) := by decide +kernel
theorem dX7_digest_147 : decode cX7_digest 147 = .ok (.aload_n 0, 1) := by decide +kernel
theorem dX7_digest_148 : decode cX7_digest 148 = .ok (.iconst 1, 1) := by decide +kernel
theorem dX7_digest_149 : decode cX7_digest 149 = .ok (.invokevirtual 394, 3) := by decide +kernel
theorem dX7_digest_152 : decode cX7_digest 152 = .ok (.dmul, 1) := by decide +kernel
theorem dX7_digest_153 : decode cX7_digest 153 = .ok (.d2l, 1) := by decide +kernel
theorem dX7_digest_154 : decode cX7_digest 154 = .ok (.ladd, 1) := by decide +kernel
theorem dX7_digest_155 : decode cX7_digest 155 = .ok (.lstore_n 1, 1) := by decide +kernel
theorem dX7_digest_156 : decode cX7_digest 156 = .ok (.lload_n 1, 1) := by decide +kernel
theorem dX7_digest_157 : decode cX7_digest 157 = .ok (.ldc2_w 376, 3) := by decide +kernel
theorem dX7_digest_160 : decode cX7_digest 160 = .ok (.lmul, 1) := by decide +kernel
theorem dX7_digest_161 : decode cX7_digest 161 = .ok (.aload_n 0, 1) := by decide +kernel
theorem dX7_digest_162 : decode cX7_digest 162 = .ok (.invokevirtual 397, 3) := by decide +kernel
theorem dX7_digest_165 : decode cX7_digest 165 = .ok (.i2l, 1) := by decide +kernel
theorem dX7_digest_166 : decode cX7_digest 166 = .ok (.ladd, 1) := by decide +kernel
theorem dX7_digest_167 : decode cX7_digest 167 = .ok (.lreturn, 1) := by decide +kernel
theorem dX7_withPot_0 : decode cX7_withPot 0 = .ok (.iconst 0, 1) := by decide +kernel
theorem dX7_withPot_1 : decode cX7_withPot 1 = .ok (.istore 4, 2) := by decide +kernel
theorem dX7_withPot_3 : decode cX7_withPot 3 = .ok (.iload 4, 2) := by decide +kernel
theorem dX7_withPot_5 : decode cX7_withPot 5 = .ok (.bipush 8, 2) := by decide +kernel
theorem dX7_withPot_7 : decode cX7_withPot 7 = .ok (.if_icmp .ge 24, 3) := by decide +kernel
theorem dX7_withPot_10 : decode cX7_withPot 10 = .ok (.lload_n 1, 1) := by decide +kernel
theorem dX7_withPot_11 : decode cX7_withPot 11 = .ok (.ldc2_w 376, 3) := by decide +kernel
theorem dX7_withPot_14 : decode cX7_withPot 14 = .ok (.lmul, 1) := by decide +kernel
theorem dX7_withPot_15 : decode cX7_withPot 15 = .ok (.aload_n 0, 1) := by decide +kernel
theorem dX7_withPot_16 : decode cX7_withPot 16 = .ok (.iload_n 3, 1) := by decide +kernel
theorem dX7_withPot_17 : decode cX7_withPot 17 = .ok (.iload 4, 2) := by decide +kernel
theorem dX7_withPot_19 : decode cX7_withPot 19 = .ok (.invokevirtual 400, 3) := by decide +kernel
theorem dX7_withPot_22 : decode cX7_withPot 22 = .ok (.i2l, 1) := by decide +kernel
theorem dX7_withPot_23 : decode cX7_withPot 23 = .ok (.ladd, 1) := by decide +kernel
theorem dX7_withPot_24 : decode cX7_withPot 24 = .ok (.lstore_n 1, 1) := by decide +kernel
theorem dX7_withPot_25 : decode cX7_withPot 25 = .ok (.iinc 4 1, 3) := by decide +kernel
theorem dX7_withPot_28 : decode cX7_withPot 28 = .ok (.goto (-25), 3) := by decide +kernel
theorem dX7_withPot_31 : decode cX7_withPot 31 = .ok (.lload_n 1, 1) := by decide +kernel
theorem dX7_withPot_32 : decode cX7_withPot 32 = .ok (.ldc2_w 376, 3) := by decide +kernel
theorem dX7_withPot_35 : decode cX7_withPot 35 = .ok (.lmul, 1) := by decide +kernel
theorem dX7_withPot_36 : decode cX7_withPot 36 = .ok (.ldc2_w 385, 3) := by decide +kernel
theorem dX7_withPot_39 : decode cX7_withPot 39 = .ok (.aload_n 0, 1) := by decide +kernel
theorem dX7_withPot_40 : decode cX7_withPot 40 = .ok (.iload_n 3, 1) := by decide +kernel
theorem dX7_withPot_41 : decode cX7_withPot 41 = .ok (.invokevirtual 403, 3) := by decide +kernel
theorem dX7_withPot_44 : decode cX7_withPot 44 = .ok (.dmul, 1) := by decide +kernel
theorem dX7_withPot_45 : decode cX7_withPot 45 = .ok (.d2l, 1) := by decide +kernel
theorem dX7_withPot_46 : decode cX7_withPot 46 = .ok (.ladd, 1) := by decide +kernel
theorem dX7_withPot_47 : decode cX7_withPot 47 = .ok (.lreturn, 1) := by decide +kernel
theorem dX7_withShelf_0 : decode cX7_withShelf 0 = .ok (.iconst 0, 1) := by decide +kernel
theorem dX7_withShelf_1 : decode cX7_withShelf 1 = .ok (.istore 4, 2) := by decide +kernel
theorem dX7_withShelf_3 : decode cX7_withShelf 3 = .ok (.iload 4, 2) := by decide +kernel
theorem dX7_withShelf_5 : decode cX7_withShelf 5 = .ok (.iconst 4, 1) := by decide +kernel
theorem dX7_withShelf_6 : decode cX7_withShelf 6 = .ok (.if_icmp .ge 24, 3) := by decide +kernel
theorem dX7_withShelf_9 : decode cX7_withShelf 9 = .ok (.lload_n 1, 1) := by decide +kernel
theorem dX7_withShelf_10 : decode cX7_withShelf 10 = .ok (.ldc2_w 376, 3) := by decide +kernel
theorem dX7_withShelf_13 : decode cX7_withShelf 13 = .ok (.lmul, 1) := by decide +kernel
theorem dX7_withShelf_14 : decode cX7_withShelf 14 = .ok (.aload_n 0, 1) := by decide +kernel
theorem dX7_withShelf_15 : decode cX7_withShelf 15 = .ok (.iload_n 3, 1) := by decide +kernel
theorem dX7_withShelf_16 : decode cX7_withShelf 16 = .ok (.iload 4, 2) := by decide +kernel
theorem dX7_withShelf_18 : decode cX7_withShelf 18 = .ok (.invokevirtual 405, 3) := by decide +kernel
theorem dX7_withShelf_21 : decode cX7_withShelf 21 = .ok (.i2l, 1) := by decide +kernel
theorem dX7_withShelf_22 : decode cX7_withShelf 22 = .ok (.ladd, 1) := by decide +kernel
theorem dX7_withShelf_23 : decode cX7_withShelf 23 = .ok (.lstore_n 1, 1) := by decide +kernel
theorem dX7_withShelf_24 : decode cX7_withShelf 24 = .ok (.iinc 4 1, 3) := by decide +kernel
theorem dX7_withShelf_27 : decode cX7_withShelf 27 = .ok (.goto (-24), 3) := by decide +kernel
theorem dX7_withShelf_30 : decode cX7_withShelf 30 = .ok (.lload_n 1, 1) := by decide +kernel
theorem dX7_withShelf_31 : decode cX7_withShelf 31 = .ok (.ldc2_w 376, 3) := by decide +kernel
theorem dX7_withShelf_34 : decode cX7_withShelf 34 = .ok (.lmul, 1) := by decide +kernel
theorem dX7_withShelf_35 : decode cX7_withShelf 35 = .ok (.aload_n 0, 1) := by decide +kernel
theorem dX7_withShelf_36 : decode cX7_withShelf 36 = .ok (.iload_n 3, 1) := by decide +kernel
theorem dX7_withShelf_37 : decode cX7_withShelf 37 = .ok (.invokevirtual 408, 3) := by decide +kernel
theorem dX7_withShelf_40 : decode cX7_withShelf 40 = .ok (.i2l, 1) := by decide +kernel
theorem dX7_withShelf_41 : decode cX7_withShelf 41 = .ok (.ladd, 1) := by decide +kernel
theorem dX7_withShelf_42 : decode cX7_withShelf 42 = .ok (.lstore_n 1, 1) := by decide +kernel
theorem dX7_withShelf_43 : decode cX7_withShelf 43 = .ok (.lload_n 1, 1) := by decide +kernel
theorem dX7_withShelf_44 : decode cX7_withShelf 44 = .ok (.ldc2_w 376, 3) := by decide +kernel
theorem dX7_withShelf_47 : decode cX7_withShelf 47 = .ok (.lmul, 1) := by decide +kernel
theorem dX7_withShelf_48 : decode cX7_withShelf 48 = .ok (.aload_n 0, 1) := by decide +kernel
theorem dX7_withShelf_49 : decode cX7_withShelf 49 = .ok (.iload_n 3, 1) := by decide +kernel
theorem dX7_withShelf_50 : decode cX7_withShelf 50 = .ok (.bipush 20, 2) := by decide +kernel
theorem dX7_withShelf_52 : decode cX7_withShelf 52 = .ok (.invokevirtual 411, 3) := by decide +kernel
theorem dX7_withShelf_55 : decode cX7_withShelf 55 = .ok (.i2l, 1) := by decide +kernel
theorem dX7_withShelf_56 : decode cX7_withShelf 56 = .ok (.ladd, 1) := by decide +kernel
theorem dX7_withShelf_57 : decode cX7_withShelf 57 = .ok (.lreturn, 1) := by decide +kernel
theorem dX7_isWithin_0 : decode cX7_isWithin 0 = .ok (.iload_n 0, 1) := by decide +kernel
theorem dX7_isWithin_1 : decode cX7_isWithin 1 = .ok (.iload_n 1, 1) := by decide +kernel
theorem dX7_isWithin_2 : decode cX7_isWithin 2 = .ok (.if_icmp .lt 12, 3) := by decide +kernel
theorem dX7_isWithin_5 : decode cX7_isWithin 5 = .ok (.iload_n 0, 1) := by decide +kernel
theorem dX7_isWithin_6 : decode cX7_isWithin 6 = .ok (.iload_n 2, 1) := by decide +kernel
theorem dX7_isWithin_7 : decode cX7_isWithin 7 = .ok (.if_icmp .gt 7, 3) := by decide +kernel
theorem dX7_isWithin_10 : decode cX7_isWithin 10 = .ok (.iconst 1, 1) := by decide +kernel
theorem dX7_isWithin_11 : decode cX7_isWithin 11 = .ok (.goto 4, 3) := by decide +kernel
theorem dX7_isWithin_14 : decode cX7_isWithin 14 = .ok (.iconst 0, 1) := by decide +kernel
theorem dX7_isWithin_15 : decode cX7_isWithin 15 = .ok (.ireturn, 1) := by decide +kernel
theorem dX7_isPart_0 : decode cX7_isPart 0 = .ok (.iload_n 0, 1) := by decide +kernel
theorem dX7_isPart_1 : decode cX7_isPart 1 = .ok (.iconst 0, 1) := by decide +kernel
theorem dX7_isPart_2 : decode cX7_isPart 2 = .ok (.bipush 60, 2) := by decide +kernel
theorem dX7_isPart_4 : decode cX7_isPart 4 = .ok (.invokestatic 74, 3) := by decide +kernel
theorem dX7_isPart_7 : decode cX7_isPart 7 = .ok (.ireturn, 1) := by decide +kernel
theorem dX7_testShelf_0 : decode cX7_testShelf 0 = .ok (.iload_n 0, 1) := by decide +kernel
theorem dX7_testShelf_1 : decode cX7_testShelf 1 = .ok (.iconst 0, 1) := by decide +kernel
theorem dX7_testShelf_2 : decode cX7_testShelf 2 = .ok (.iconst 2, 1) := by decide +kernel
theorem dX7_testShelf_3 : decode cX7_testShelf 3 = .ok (.invokestatic 74, 3) := by decide +kernel
theorem dX7_testShelf_6 : decode cX7_testShelf 6 = .ok (.ifCond .ne 14, 3) := by decide +kernel
theorem dX7_testShelf_9 : decode cX7_testShelf 9 = .ok (.new 156, 3) := by decide +kernel
theorem dX7_testShelf_12 : decode cX7_testShelf 12 = .ok (.dup, 1) := by decide +kernel
theorem dX7_testShelf_13 : decode cX7_testShelf 13 = .ok (.ldc_w 414, 3) := by decide +kernel
theorem dX7_testShelf_16 : decode cX7_testShelf 16 = .ok (.invokespecial 160, 3) := by decide +kernel
theorem dX7_testShelf_19 : decode cX7_testShelf 19 = .ok (.athrow, 1) := by decide +kernel
theorem dX7_testShelf_20 : decode cX7_testShelf 20 = .ok (.return_, 1) := by decide +kernel
theorem dX7_testSteps_0 : decode cX7_testSteps 0 = .ok (.iload_n 0, 1) := by decide +kernel
theorem dX7_testSteps_1 : decode cX7_testSteps 1 = .ok (.iconst 1, 1) := by decide +kernel
theorem dX7_testSteps_2 : decode cX7_testSteps 2 = .ok (.bipush 60, 2) := by decide +kernel
theorem dX7_testSteps_4 : decode cX7_testSteps 4 = .ok (.invokestatic 74, 3) := by decide +kernel
theorem dX7_testSteps_7 : decode cX7_testSteps 7 = .ok (.ifCond .ne 14, 3) := by decide +kernel
theorem dX7_testSteps_10 : decode cX7_testSteps 10 = .ok (.new 78, 3) := by decide +kernel
theorem dX7_testSteps_13 : decode cX7_testSteps 13 = .ok (.dup, 1) := by decide +kernel
theorem dX7_testSteps_14 : decode cX7_testSteps 14 = .ok (.ldc_w 416, 3) := by decide +kernel
theorem dX7_testSteps_17 : decode cX7_testSteps 17 = .ok (.invokespecial 82, 3) := by decide +kernel
theorem dX7_testSteps_20 : decode cX7_testSteps 20 = .ok (.athrow, 1) := by decide +kernel
theorem dX7_testSteps_21 : decode cX7_testSteps 21 = .ok (.return_, 1) := by decide +kernel
theorem dX7_clayAt_0 : decode cX7_clayAt 0 = .ok (.iload_n 1, 1) := by decide +kernel
theorem dX7_clayAt_1 : decode cX7_clayAt 1 = .ok (.ifCond .lt 21, 3) := by decide +kernel
theorem dX7_clayAt_4 : decode cX7_clayAt 4 = .ok (.iload_n 1, 1) := by decide +kernel
theorem dX7_clayAt_5 : decode cX7_clayAt 5 = .ok (.aload_n 0, 1) := by decide +kernel
theorem dX7_clayAt_6 : decode cX7_clayAt 6 = .ok (.getfield 11, 3) := by decide +kernel
theorem dX7_clayAt_9 : decode cX7_clayAt 9 = .ok (.arraylength, 1) := by decide +kernel
theorem dX7_clayAt_10 : decode cX7_clayAt 10 = .ok (.if_icmp .ge 12, 3) := by decide +kernel
theorem dX7_clayAt_13 : decode cX7_clayAt 13 = .ok (.aload_n 0, 1) := by decide +kernel
theorem dX7_clayAt_14 : decode cX7_clayAt 14 = .ok (.getfield 11, 3) := by decide +kernel
theorem dX7_clayAt_17 : decode cX7_clayAt 17 = .ok (.iload_n 1, 1) := by decide +kernel
theorem dX7_clayAt_18 : decode cX7_clayAt 18 = .ok (.aaload, 1) := by decide +kernel
theorem dX7_clayAt_19 : decode cX7_clayAt 19 = .ok (.goto 4, 3) := by decide +kernel
theorem dX7_clayAt_22 : decode cX7_clayAt 22 = .ok (.aconst_null, 1) := by decide +kernel
theorem dX7_clayAt_23 : decode cX7_clayAt 23 = .ok (.astore_n 2, 1) := by decide +kernel
theorem dX7_clayAt_24 : decode cX7_clayAt 24 = .ok (.aload_n 2, 1) := by decide +kernel
theorem dX7_clayAt_25 : decode cX7_clayAt 25 = .ok (.ifnonnull 14, 3) := by decide +kernel
theorem dX7_clayAt_28 : decode cX7_clayAt 28 = .ok (.new 156, 3) := by decide +kernel
theorem dX7_clayAt_31 : decode cX7_clayAt 31 = .ok (.dup, 1) := by decide +kernel
theorem dX7_clayAt_32 : decode cX7_clayAt 32 = .ok (.ldc_w 418, 3) := by decide +kernel
theorem dX7_clayAt_35 : decode cX7_clayAt 35 = .ok (.invokespecial 160, 3) := by decide +kernel
theorem dX7_clayAt_38 : decode cX7_clayAt 38 = .ok (.athrow, 1) := by decide +kernel
theorem dX7_clayAt_39 : decode cX7_clayAt 39 = .ok (.aload_n 2, 1) := by decide +kernel
theorem dX7_clayAt_40 : decode cX7_clayAt 40 = .ok (.areturn, 1) := by decide +kernel
theorem dX7_glazeAt_0 : decode cX7_glazeAt 0 = .ok (.iload_n 1, 1) := by decide +kernel
theorem dX7_glazeAt_1 : decode cX7_glazeAt 1 = .ok (.ifCond .lt 21, 3) := by decide +kernel
theorem dX7_glazeAt_4 : decode cX7_glazeAt 4 = .ok (.iload_n 1, 1) := by decide +kernel
theorem dX7_glazeAt_5 : decode cX7_glazeAt 5 = .ok (.aload_n 0, 1) := by decide +kernel
theorem dX7_glazeAt_6 : decode cX7_glazeAt 6 = .ok (.getfield 17, 3) := by decide +kernel
theorem dX7_glazeAt_9 : decode cX7_glazeAt 9 = .ok (.arraylength, 1) := by decide +kernel
theorem dX7_glazeAt_10 : decode cX7_glazeAt 10 = .ok (.if_icmp .ge 12, 3) := by decide +kernel
theorem dX7_glazeAt_13 : decode cX7_glazeAt 13 = .ok (.aload_n 0, 1) := by decide +kernel
theorem dX7_glazeAt_14 : decode cX7_glazeAt 14 = .ok (.getfield 17, 3) := by decide +kernel
theorem dX7_glazeAt_17 : decode cX7_glazeAt 17 = .ok (.iload_n 1, 1) := by decide +kernel
theorem dX7_glazeAt_18 : decode cX7_glazeAt 18 = .ok (.aaload, 1) := by decide +kernel
theorem dX7_glazeAt_19 : decode cX7_glazeAt 19 = .ok (.goto 4, 3) := by decide +kernel
theorem dX7_glazeAt_22 : decode cX7_glazeAt 22 = .ok (.aconst_null, 1) := by decide +kernel
theorem dX7_glazeAt_23 : decode cX7_glazeAt 23 = .ok (.astore_n 2, 1) := by decide +kernel
theorem dX7_glazeAt_24 : decode cX7_glazeAt 24 = .ok (.aload_n 2, 1) := by decide +kernel
theorem dX7_glazeAt_25 : decode cX7_glazeAt 25 = .ok (.ifnonnull 14, 3) := by decide +kernel
theorem dX7_glazeAt_28 : decode cX7_glazeAt 28 = .ok (.new 156, 3) := by decide +kernel
theorem dX7_glazeAt_31 : decode cX7_glazeAt 31 = .ok (.dup, 1) := by decide +kernel
theorem dX7_glazeAt_32 : decode cX7_glazeAt 32 = .ok (.ldc_w 420, 3) := by decide +kernel
theorem dX7_glazeAt_35 : decode cX7_glazeAt 35 = .ok (.invokespecial 160, 3) := by decide +kernel
theorem dX7_glazeAt_38 : decode cX7_glazeAt 38 = .ok (.athrow, 1) := by decide +kernel
theorem dX7_glazeAt_39 : decode cX7_glazeAt 39 = .ok (.aload_n 2, 1) := by decide +kernel
theorem dX7_glazeAt_40 : decode cX7_glazeAt 40 = .ok (.areturn, 1) := by decide +kernel
theorem dX7_potAt_0 : decode cX7_potAt 0 = .ok (.iload_n 1, 1) := by decide +kernel
theorem dX7_potAt_1 : decode cX7_potAt 1 = .ok (.ifCond .lt 21, 3) := by decide +kernel
theorem dX7_potAt_4 : decode cX7_potAt 4 = .ok (.iload_n 1, 1) := by decide +kernel
theorem dX7_potAt_5 : decode cX7_potAt 5 = .ok (.aload_n 0, 1) := by decide +kernel
theorem dX7_potAt_6 : decode cX7_potAt 6 = .ok (.getfield 23, 3) := by decide +kernel
theorem dX7_potAt_9 : decode cX7_potAt 9 = .ok (.arraylength, 1) := by decide +kernel
theorem dX7_potAt_10 : decode cX7_potAt 10 = .ok (.if_icmp .ge 12, 3) := by decide +kernel
theorem dX7_potAt_13 : decode cX7_potAt 13 = .ok (.aload_n 0, 1) := by decide +kernel
theorem dX7_potAt_14 : decode cX7_potAt 14 = .ok (.getfield 23, 3) := by decide +kernel
theorem dX7_potAt_17 : decode cX7_potAt 17 = .ok (.iload_n 1, 1) := by decide +kernel
theorem dX7_potAt_18 : decode cX7_potAt 18 = .ok (.aaload, 1) := by decide +kernel
theorem dX7_potAt_19 : decode cX7_potAt 19 = .ok (.goto 4, 3) := by decide +kernel
theorem dX7_potAt_22 : decode cX7_potAt 22 = .ok (.aconst_null, 1) := by decide +kernel
theorem dX7_potAt_23 : decode cX7_potAt 23 = .ok (.astore_n 2, 1) := by decide +kernel
theorem dX7_potAt_24 : decode cX7_potAt 24 = .ok (.aload_n 2, 1) := by decide +kernel
theorem dX7_potAt_25 : decode cX7_potAt 25 = .ok (.ifnonnull 14, 3) := by decide +kernel
theorem dX7_potAt_28 : decode cX7_potAt 28 = .ok (.new 156, 3) := by decide +kernel
theorem dX7_potAt_31 : decode cX7_potAt 31 = .ok (.dup, 1) := by decide +kernel
theorem dX7_potAt_32 : decode cX7_potAt 32 = .ok (.ldc_w 422, 3) := by decide +kernel
theorem dX7_potAt_35 : decode cX7_potAt 35 = .ok (.invokespecial 160, 3) := by decide +kernel
theorem dX7_potAt_38 : decode cX7_potAt 38 = .ok (.athrow, 1) := by decide +kernel
theorem dX7_potAt_39 : decode cX7_potAt 39 = .ok (.aload_n 2, 1) := by decide +kernel
theorem dX7_potAt_40 : decode cX7_potAt 40 = .ok (.areturn, 1) := by decide +kernel
theorem dX7_orderAt_0 : decode cX7_orderAt 0 = .ok (.iload_n 1, 1) := by decide +kernel
theorem dX7_orderAt_1 : decode cX7_orderAt 1 = .ok (.ifCond .lt 21, 3) := by decide +kernel
theorem dX7_orderAt_4 : decode cX7_orderAt 4 = .ok (.iload_n 1, 1) := by decide +kernel
theorem dX7_orderAt_5 : decode cX7_orderAt 5 = .ok (.aload_n 0, 1) := by decide +kernel
theorem dX7_orderAt_6 : decode cX7_orderAt 6 = .ok (.getfield 29, 3) := by decide +kernel
theorem dX7_orderAt_9 : decode cX7_orderAt 9 = .ok (.arraylength, 1) := by decide +kernel
theorem dX7_orderAt_10 : decode cX7_orderAt 10 = .ok (.if_icmp .ge 12, 3) := by decide +kernel
theorem dX7_orderAt_13 : decode cX7_orderAt 13 = .ok (.aload_n 0, 1) := by decide +kernel
theorem dX7_orderAt_14 : decode cX7_orderAt 14 = .ok (.getfield 29, 3) := by decide +kernel
theorem dX7_orderAt_17 : decode cX7_orderAt 17 = .ok (.iload_n 1, 1) := by decide +kernel
theorem dX7_orderAt_18 : decode cX7_orderAt 18 = .ok (.aaload, 1) := by decide +kernel
theorem dX7_orderAt_19 : decode cX7_orderAt 19 = .ok (.goto 4, 3) := by decide +kernel
theorem dX7_orderAt_22 : decode cX7_orderAt 22 = .ok (.aconst_null, 1) := by decide +kernel
theorem dX7_orderAt_23 : decode cX7_orderAt 23 = .ok (.astore_n 2, 1) := by decide +kernel
theorem dX7_orderAt_24 : decode cX7_orderAt 24 = .ok (.aload_n 2, 1) := by decide +kernel
theorem dX7_orderAt_25 : decode cX7_orderAt 25 = .ok (.ifnonnull 14, 3) := by decide +kernel
theorem dX7_orderAt_28 : decode cX7_orderAt 28 = .ok (.new 156, 3) := by decide +kernel
theorem dX7_orderAt_31 : decode cX7_orderAt 31 = .ok (.dup, 1) := by decide +kernel
theorem dX7_orderAt_32 : decode cX7_orderAt 32 = .ok (.ldc_w 424, 3) := by decide +kernel
theorem dX7_orderAt_35 : decode cX7_orderAt 35 = .ok (.invokespecial 160, 3) := by decide +kernel
theorem dX7_orderAt_38 : decode cX7_orderAt 38 = .ok (.athrow, 1) := by decide +kernel
theorem dX7_orderAt_39 : decode cX7_orderAt 39 = .ok (.aload_n 2, 1) := by decide +kernel
theorem dX7_orderAt_40 : decode cX7_orderAt 40 = .ok (.areturn, 1) := by decide +kernel
theorem dX7_dryOneDay_0 : decode cX7_dryOneDay 0 = .ok (.aload_n 0, 1) := by decide +kernel
theorem dX7_dryOneDay_1 : decode cX7_dryOneDay 1 = .ok (.dup, 1) := by decide +kernel
theorem dX7_dryOneDay_2 : decode cX7_dryOneDay 2 = .ok (.getfield 65, 3) := by decide +kernel
theorem dX7_dryOneDay_5 : decode cX7_dryOneDay 5 = .ok (.iconst 1, 1) := by decide +kernel
theorem dX7_dryOneDay_6 : decode cX7_dryOneDay 6 = .ok (.iadd, 1) := by decide +kernel
theorem dX7_dryOneDay_7 : decode cX7_dryOneDay 7 = .ok (.putfield 65, 3) := by decide +kernel
theorem dX7_dryOneDay_10 : decode cX7_dryOneDay 10 = .ok (.aload_n 0, 1) := by decide +kernel
theorem dX7_dryOneDay_11 : decode cX7_dryOneDay 11 = .ok (.getfield 23, 3) := by decide +kernel
theorem dX7_dryOneDay_14 : decode cX7_dryOneDay 14 = .ok (.astore_n 2, 1) := by decide +kernel
theorem dX7_dryOneDay_15 : decode cX7_dryOneDay 15 = .ok (.aload_n 2, 1) := by decide +kernel
theorem dX7_dryOneDay_16 : decode cX7_dryOneDay 16 = .ok (.arraylength, 1) := by decide +kernel
theorem dX7_dryOneDay_17 : decode cX7_dryOneDay 17 = .ok (.istore_n 3, 1) := by decide +kernel
theorem dX7_dryOneDay_18 : decode cX7_dryOneDay 18 = .ok (.iconst 0, 1) := by decide +kernel
theorem dX7_dryOneDay_19 : decode cX7_dryOneDay 19 = .ok (.istore 4, 2) := by decide +kernel
theorem dX7_dryOneDay_21 : decode cX7_dryOneDay 21 = .ok (.iload 4, 2) := by decide +kernel
theorem dX7_dryOneDay_23 : decode cX7_dryOneDay 23 = .ok (.iload_n 3, 1) := by decide +kernel
theorem dX7_dryOneDay_24 : decode cX7_dryOneDay 24 = .ok (.if_icmp .ge 26, 3) := by decide +kernel
theorem dX7_dryOneDay_27 : decode cX7_dryOneDay 27 = .ok (.aload_n 2, 1) := by decide +kernel
theorem dX7_dryOneDay_28 : decode cX7_dryOneDay 28 = .ok (.iload 4, 2) := by decide +kernel
theorem dX7_dryOneDay_30 : decode cX7_dryOneDay 30 = .ok (.aaload, 1) := by decide +kernel
theorem dX7_dryOneDay_31 : decode cX7_dryOneDay 31 = .ok (.astore 5, 2) := by decide +kernel
theorem dX7_dryOneDay_33 : decode cX7_dryOneDay 33 = .ok (.aload 5, 2) := by decide +kernel
theorem dX7_dryOneDay_35 : decode cX7_dryOneDay 35 = .ok (.ifnull 9, 3) := by decide +kernel
theorem dX7_dryOneDay_38 : decode cX7_dryOneDay 38 = .ok (.aload 5, 2) := by decide +kernel
theorem dX7_dryOneDay_40 : decode cX7_dryOneDay 40 = .ok (.iload_n 1, 1) := by decide +kernel
theorem dX7_dryOneDay_41 : decode cX7_dryOneDay 41 = .ok (.invokevirtual 426, 3) := by decide +kernel
theorem dX7_dryOneDay_44 : decode cX7_dryOneDay 44 = .ok (.iinc 4 1, 3) := by decide +kernel
theorem dX7_dryOneDay_47 : decode cX7_dryOneDay 47 = .ok (.goto (-26), 3) := by decide +kernel
theorem dX7_dryOneDay_50 : decode cX7_dryOneDay 50 = .ok (.return_, 1) := by decide +kernel
theorem dX7_heatPots_0 : decode cX7_heatPots 0 = .ok (.aload_n 0, 1) := by decide +kernel
theorem dX7_heatPots_1 : decode cX7_heatPots 1 = .ok (.getfield 58, 3) := by decide +kernel
theorem dX7_heatPots_4 : decode cX7_heatPots 4 = .ok (.getfield 242, 3) := by decide +kernel
theorem dX7_heatPots_7 : decode cX7_heatPots 7 = .ok (.iconst 3, 1) := by decide +kernel
theorem dX7_heatPots_8 : decode cX7_heatPots 8 = .ok (.if_icmp .lt 7, 3) := by decide +kernel
theorem dX7_heatPots_11 : decode cX7_heatPots 11 = .ok (.iconst 1, 1) := by decide +kernel
theorem dX7_heatPots_12 : decode cX7_heatPots 12 = .ok (.goto 4, 3) := by decide +kernel
theorem dX7_heatPots_15 : decode cX7_heatPots 15 = .ok (.iconst 0, 1) := by decide +kernel
theorem dX7_heatPots_16 : decode cX7_heatPots 16 = .ok (.istore_n 1, 1) := by decide +kernel
theorem dX7_heatPots_17 : decode cX7_heatPots 17 = .ok (.aload_n 0, 1) := by decide +kernel
theorem dX7_heatPots_18 : decode cX7_heatPots 18 = .ok (.getfield 23, 3) := by decide +kernel
theorem dX7_heatPots_21 : decode cX7_heatPots 21 = .ok (.astore_n 2, 1) := by decide +kernel
theorem dX7_heatPots_22 : decode cX7_heatPots 22 = .ok (.aload_n 2, 1) := by decide +kernel
theorem dX7_heatPots_23 : decode cX7_heatPots 23 = .ok (.arraylength, 1) := by decide +kernel
theorem dX7_heatPots_24 : decode cX7_heatPots 24 = .ok (.istore_n 3, 1) := by decide +kernel
theorem dX7_heatPots_25 : decode cX7_heatPots 25 = .ok (.iconst 0, 1) := by decide +kernel
theorem dX7_heatPots_26 : decode cX7_heatPots 26 = .ok (.istore 4, 2) := by decide +kernel
theorem dX7_heatPots_28 : decode cX7_heatPots 28 = .ok (.iload 4, 2) := by decide +kernel
theorem dX7_heatPots_30 : decode cX7_heatPots 30 = .ok (.iload_n 3, 1) := by decide +kernel
theorem dX7_heatPots_31 : decode cX7_heatPots 31 = .ok (.if_icmp .ge 73, 3) := by decide +kernel
theorem dX7_heatPots_34 : decode cX7_heatPots 34 = .ok (.aload_n 2, 1) := by decide +kernel
theorem dX7_heatPots_35 : decode cX7_heatPots 35 = .ok (.iload 4, 2) := by decide +kernel
theorem dX7_heatPots_37 : decode cX7_heatPots 37 = .ok (.aaload, 1) := by decide +kernel
theorem dX7_heatPots_38 : decode cX7_heatPots 38 = .ok (.astore 5, 2) := by decide +kernel
theorem dX7_heatPots_40 : decode cX7_heatPots 40 = .ok (.aload 5, 2) := by decide +kernel
theorem dX7_heatPots_42 : decode cX7_heatPots 42 = .ok (.ifnull 56, 3) := by decide +kernel
theorem dX7_heatPots_45 : decode cX7_heatPots 45 = .ok (.aload 5, 2) := by decide +kernel
theorem dX7_heatPots_47 : decode cX7_heatPots 47 = .ok (.getfield 188, 3) := by decide +kernel
theorem dX7_heatPots_50 : decode cX7_heatPots 50 = .ok (.iconst (-1), 1) := by decide +kernel
theorem dX7_heatPots_51 : decode cX7_heatPots 51 = .ok (.if_icmp .eq 47, 3) := by decide +kernel
theorem dX7_heatPots_54 : decode cX7_heatPots 54 = .ok (.aload 5, 2) := by decide +kernel
theorem dX7_heatPots_56 : decode cX7_heatPots 56 = .ok (.getfield 188, 3) := by decide +kernel
theorem dX7_heatPots_59 : decode cX7_heatPots 59 = .ok (.aload_n 0, 1) := by decide +kernel
theorem dX7_heatPots_60 : decode cX7_heatPots 60 = .ok (.getfield 58, 3) := by decide +kernel
theorem dX7_heatPots_63 : decode cX7_heatPots 63 = .ok (.getfield 429, 3) := by decide +kernel
theorem dX7_heatPots_66 : decode cX7_heatPots 66 = .ok (.invokestatic 432, 3) := by decide +kernel
theorem dX7_heatPots_69 : decode cX7_heatPots 69 = .ok (.dstore 6, 2) := by decide +kernel
theorem dX7_heatPots_71 : decode cX7_heatPots 71 = .ok (.aload 5, 2) := by decide +kernel
theorem dX7_heatPots_73 : decode cX7_heatPots 73 = .ok (.getfield 188, 3) := by decide +kernel
theorem dX7_heatPots_76 : decode cX7_heatPots 76 = .ok (.aload_n 0, 1) := by decide +kernel
theorem dX7_heatPots_77 : decode cX7_heatPots 77 = .ok (.getfield 58, 3) := by decide +kernel
theorem dX7_heatPots_80 : decode cX7_heatPots 80 = .ok (.getfield 317, 3) := by decide +kernel
theorem dX7_heatPots_83 : decode cX7_heatPots 83 = .ok (.invokestatic 432, 3) := by decide +kernel
theorem dX7_heatPots_86 : decode cX7_heatPots 86 = .ok (.dstore 8, 2) := by decide +kernel
theorem dX7_heatPots_88 : decode cX7_heatPots 88 = .ok (.aload 5, 2) := by decide +kernel
theorem dX7_heatPots_90 : decode cX7_heatPots 90 = .ok (.dload 6, 2) := by decide +kernel
theorem dX7_heatPots_92 : decode cX7_heatPots 92 = .ok (.dload 8, 2) := by decide +kernel
theorem dX7_heatPots_94 : decode cX7_heatPots 94 = .ok (.iload_n 1, 1) := by decide +kernel
theorem dX7_heatPots_95 : decode cX7_heatPots 95 = .ok (.invokevirtual 436, 3) := by decide +kernel
theorem dX7_heatPots_98 : decode cX7_heatPots 98 = .ok (.iinc 4 1, 3) := by decide +kernel
theorem dX7_heatPots_101 : decode cX7_heatPots 101 = .ok (.goto (-73), 3) := by decide +kernel
theorem dX7_heatPots_104 : decode cX7_heatPots 104 = .ok (.return_, 1) := by decide +kernel
theorem dX7_potsInState_0 : decode cX7_potsInState 0 = .ok (.iconst 0, 1) := by decide +kernel
theorem dX7_potsInState_1 : decode cX7_potsInState 1 = .ok (.istore_n 2, 1) := by decide +kernel
theorem dX7_potsInState_2 : decode cX7_potsInState 2 = .ok (.aload_n 0, 1) := by decide +kernel
theorem dX7_potsInState_3 : decode cX7_potsInState 3 = .ok (.getfield 23, 3) := by decide +kernel
theorem dX7_potsInState_6 : decode cX7_potsInState 6 = .ok (.astore_n 3, 1) := by decide +kernel
theorem dX7_potsInState_7 : decode cX7_potsInState 7 = .ok (.aload_n 3, 1) := by decide +kernel
theorem dX7_potsInState_8 : decode cX7_potsInState 8 = .ok (.arraylength, 1) := by decide +kernel
theorem dX7_potsInState_9 : decode cX7_potsInState 9 = .ok (.istore 4, 2) := by decide +kernel
theorem dX7_potsInState_11 : decode cX7_potsInState 11 = .ok (.iconst 0, 1) := by decide +kernel
theorem dX7_potsInState_12 : decode cX7_potsInState 12 = .ok (.istore 5, 2) := by decide +kernel
theorem dX7_potsInState_14 : decode cX7_potsInState 14 = .ok (.iload 5, 2) := by decide +kernel
theorem dX7_potsInState_16 : decode cX7_potsInState 16 = .ok (.iload 4, 2) := by decide +kernel
theorem dX7_potsInState_18 : decode cX7_potsInState 18 = .ok (.if_icmp .ge 37, 3) := by decide +kernel
theorem dX7_potsInState_21 : decode cX7_potsInState 21 = .ok (.aload_n 3, 1) := by decide +kernel
theorem dX7_potsInState_22 : decode cX7_potsInState 22 = .ok (.iload 5, 2) := by decide +kernel
theorem dX7_potsInState_24 : decode cX7_potsInState 24 = .ok (.aaload, 1) := by decide +kernel
theorem dX7_potsInState_25 : decode cX7_potsInState 25 = .ok (.astore 6, 2) := by decide +kernel
theorem dX7_potsInState_27 : decode cX7_potsInState 27 = .ok (.iload_n 2, 1) := by decide +kernel
theorem dX7_potsInState_28 : decode cX7_potsInState 28 = .ok (.aload 6, 2) := by decide +kernel
theorem dX7_potsInState_30 : decode cX7_potsInState 30 = .ok (.ifnull 16, 3) := by decide +kernel
theorem dX7_potsInState_33 : decode cX7_potsInState 33 = .ok (.aload 6, 2) := by decide +kernel
theorem dX7_potsInState_35 : decode cX7_potsInState 35 = .ok (.getfield 141, 3) := by decide +kernel
theorem dX7_potsInState_38 : decode cX7_potsInState 38 = .ok (.iload_n 1, 1) := by decide +kernel
theorem dX7_potsInState_39 : decode cX7_potsInState 39 = .ok (.if_icmp .ne 7, 3) := by decide +kernel
theorem dX7_potsInState_42 : decode cX7_potsInState 42 = .ok (.iconst 1, 1) := by decide +kernel
theorem dX7_potsInState_43 : decode cX7_potsInState 43 = .ok (.goto 4, 3) := by decide +kernel
theorem dX7_potsInState_46 : decode cX7_potsInState 46 = .ok (.iconst 0, 1) := by decide +kernel
theorem dX7_potsInState_47 : decode cX7_potsInState 47 = .ok (.iadd, 1) := by decide +kernel
theorem dX7_potsInState_48 : decode cX7_potsInState 48 = .ok (.istore_n 2, 1) := by decide +kernel
theorem dX7_potsInState_49 : decode cX7_potsInState 49 = .ok (.iinc 5 1, 3) := by decide +kernel
theorem dX7_potsInState_52 : decode cX7_potsInState 52 = .ok (.goto (-38), 3) := by decide +kernel
theorem dX7_potsInState_55 : decode cX7_potsInState 55 = .ok (.iload_n 2, 1) := by decide +kernel
theorem dX7_potsInState_56 : decode cX7_potsInState 56 = .ok (.ireturn, 1) := by decide +kernel
theorem dX7_potsOn_0 : decode cX7_potsOn 0 = .ok (.iconst 0, 1) := by decide +kernel
theorem dX7_potsOn_1 : decode cX7_potsOn 1 = .ok (.istore_n 2, 1) := by decide +kernel
theorem dX7_potsOn_2 : decode cX7_potsOn 2 = .ok (.aload_n 0, 1) := by decide +kernel
theorem dX7_potsOn_3 : decode cX7_potsOn 3 = .ok (.getfield 23, 3) := by decide +kernel
theorem dX7_potsOn_6 : decode cX7_potsOn 6 = .ok (.astore_n 3, 1) := by decide +kernel
theorem dX7_potsOn_7 : decode cX7_potsOn 7 = .ok (.aload_n 3, 1) := by decide +kernel
theorem dX7_potsOn_8 : decode cX7_potsOn 8 = .ok (.arraylength, 1) := by decide +kernel
theorem dX7_potsOn_9 : decode cX7_potsOn 9 = .ok (.istore 4, 2) := by decide +kernel
theorem dX7_potsOn_11 : decode cX7_potsOn 11 = .ok (.iconst 0, 1) := by decide +kernel
theorem dX7_potsOn_12 : decode cX7_potsOn 12 = .ok (.istore 5, 2) := by decide +kernel
theorem dX7_potsOn_14 : decode cX7_potsOn 14 = .ok (.iload 5, 2) := by decide +kernel
theorem dX7_potsOn_16 : decode cX7_potsOn 16 = .ok (.iload 4, 2) := by decide +kernel
theorem dX7_potsOn_18 : decode cX7_potsOn 18 = .ok (.if_icmp .ge 37, 3) := by decide +kernel
theorem dX7_potsOn_21 : decode cX7_potsOn 21 = .ok (.aload_n 3, 1) := by decide +kernel
theorem dX7_potsOn_22 : decode cX7_potsOn 22 = .ok (.iload 5, 2) := by decide +kernel
theorem dX7_potsOn_24 : decode cX7_potsOn 24 = .ok (.aaload, 1) := by decide +kernel
theorem dX7_potsOn_25 : decode cX7_potsOn 25 = .ok (.astore 6, 2) := by decide +kernel
theorem dX7_potsOn_27 : decode cX7_potsOn 27 = .ok (.iload_n 2, 1) := by decide +kernel
theorem dX7_potsOn_28 : decode cX7_potsOn 28 = .ok (.aload 6, 2) := by decide +kernel
theorem dX7_potsOn_30 : decode cX7_potsOn 30 = .ok (.ifnull 16, 3) := by decide +kernel
theorem dX7_potsOn_33 : decode cX7_potsOn 33 = .ok (.aload 6, 2) := by decide +kernel
theorem dX7_potsOn_35 : decode cX7_potsOn 35 = .ok (.getfield 188, 3) := by decide +kernel
theorem dX7_potsOn_38 : decode cX7_potsOn 38 = .ok (.iload_n 1, 1) := by decide +kernel
theorem dX7_potsOn_39 : decode cX7_potsOn 39 = .ok (.if_icmp .ne 7, 3) := by decide +kernel
theorem dX7_potsOn_42 : decode cX7_potsOn 42 = .ok (.iconst 1, 1) := by decide +kernel
theorem dX7_potsOn_43 : decode cX7_potsOn 43 = .ok (.goto 4, 3) := by decide +kernel
theorem dX7_potsOn_46 : decode cX7_potsOn 46 = .ok (.iconst 0, 1) := by decide +kernel
theorem dX7_potsOn_47 : decode cX7_potsOn 47 = .ok (.iadd, 1) := by decide +kernel
theorem dX7_potsOn_48 : decode cX7_potsOn 48 = .ok (.istore_n 2, 1) := by decide +kernel
theorem dX7_potsOn_49 : decode cX7_potsOn 49 = .ok (.iinc 5 1, 3) := by decide +kernel
theorem dX7_potsOn_52 : decode cX7_potsOn 52 = .ok (.goto (-38), 3) := by decide +kernel
theorem dX7_potsOn_55 : decode cX7_potsOn 55 = .ok (.iload_n 2, 1) := by decide +kernel
theorem dX7_potsOn_56 : decode cX7_potsOn 56 = .ok (.ireturn, 1) := by decide +kernel
theorem dX7_openOrders_0 : decode cX7_openOrders 0 = .ok (.iconst 0, 1) := by decide +kernel
theorem dX7_openOrders_1 : decode cX7_openOrders 1 = .ok (.istore_n 1, 1) := by decide +kernel
theorem dX7_openOrders_2 : decode cX7_openOrders 2 = .ok (.aload_n 0, 1) := by decide +kernel
theorem dX7_openOrders_3 : decode cX7_openOrders 3 = .ok (.getfield 29, 3) := by decide +kernel
theorem dX7_openOrders_6 : decode cX7_openOrders 6 = .ok (.astore_n 2, 1) := by decide +kernel
theorem dX7_openOrders_7 : decode cX7_openOrders 7 = .ok (.aload_n 2, 1) := by decide +kernel
theorem dX7_openOrders_8 : decode cX7_openOrders 8 = .ok (.arraylength, 1) := by decide +kernel
theorem dX7_openOrders_9 : decode cX7_openOrders 9 = .ok (.istore_n 3, 1) := by decide +kernel
theorem dX7_openOrders_10 : decode cX7_openOrders 10 = .ok (.iconst 0, 1) := by decide +kernel
theorem dX7_openOrders_11 : decode cX7_openOrders 11 = .ok (.istore 4, 2) := by decide +kernel
theorem dX7_openOrders_13 : decode cX7_openOrders 13 = .ok (.iload 4, 2) := by decide +kernel
theorem dX7_openOrders_15 : decode cX7_openOrders 15 = .ok (.iload_n 3, 1) := by decide +kernel
theorem dX7_openOrders_16 : decode cX7_openOrders 16 = .ok (.if_icmp .ge 36, 3) := by decide +kernel
theorem dX7_openOrders_19 : decode cX7_openOrders 19 = .ok (.aload_n 2, 1) := by decide +kernel
theorem dX7_openOrders_20 : decode cX7_openOrders 20 = .ok (.iload 4, 2) := by decide +kernel
theorem dX7_openOrders_22 : decode cX7_openOrders 22 = .ok (.aaload, 1) := by decide +kernel
theorem dX7_openOrders_23 : decode cX7_openOrders 23 = .ok (.astore 5, 2) := by decide +kernel
theorem dX7_openOrders_25 : decode cX7_openOrders 25 = .ok (.iload_n 1, 1) := by decide +kernel
theorem dX7_openOrders_26 : decode cX7_openOrders 26 = .ok (.aload 5, 2) := by decide +kernel
theorem dX7_openOrders_28 : decode cX7_openOrders 28 = .ok (.ifnull 15, 3) := by decide +kernel
theorem dX7_openOrders_31 : decode cX7_openOrders 31 = .ok (.aload 5, 2) := by decide +kernel
theorem dX7_openOrders_33 : decode cX7_openOrders 33 = .ok (.getfield 273, 3) := by decide +kernel
theorem dX7_openOrders_36 : decode cX7_openOrders 36 = .ok (.ifCond .ne 7, 3) := by decide +kernel
theorem dX7_openOrders_39 : decode cX7_openOrders 39 = .ok (.iconst 1, 1) := by decide +kernel
theorem dX7_openOrders_40 : decode cX7_openOrders 40 = .ok (.goto 4, 3) := by decide +kernel
theorem dX7_openOrders_43 : decode cX7_openOrders 43 = .ok (.iconst 0, 1) := by decide +kernel
theorem dX7_openOrders_44 : decode cX7_openOrders 44 = .ok (.iadd, 1) := by decide +kernel
theorem dX7_openOrders_45 : decode cX7_openOrders 45 = .ok (.istore_n 1, 1) := by decide +kernel
theorem dX7_openOrders_46 : decode cX7_openOrders 46 = .ok (.iinc 4 1, 3) := by decide +kernel
theorem dX7_openOrders_49 : decode cX7_openOrders 49 = .ok (.goto (-36), 3) := by decide +kernel
theorem dX7_openOrders_52 : decode cX7_openOrders 52 = .ok (.iload_n 1, 1) := by decide +kernel
theorem dX7_openOrders_53 : decode cX7_openOrders 53 = .ok (.ireturn, 1) := by decide +kernel
theorem dX7_heightOf_0 : decode cX7_heightOf 0 = .ok (.iload_n 0, 1) := by decide +kernel
theorem dX7_heightOf_1 : decode cX7_heightOf 1 = .ok (.iconst 2, 1) := by decide +kernel
theorem dX7_heightOf_2 : decode cX7_heightOf 2 = .ok (.if_icmp .ne 7, 3) := by decide +kernel
theorem dX7_heightOf_5 : decode cX7_heightOf 5 = .ok (.iconst 2, 1) := by decide +kernel
theorem dX7_heightOf_6 : decode cX7_heightOf 6 = .ok (.goto 4, 3) := by decide +kernel
theorem dX7_heightOf_9 : decode cX7_heightOf 9 = .ok (.iconst 3, 1) := by decide +kernel
theorem dX7_heightOf_10 : decode cX7_heightOf 10 = .ok (.ireturn, 1) := by decide +kernel
theorem dX7_cellsFrom_0 : decode cX7_cellsFrom 0 = .ok (.iconst 1, 1) := by decide +kernel
theorem dX7_cellsFrom_1 : decode cX7_cellsFrom 1 = .ok (.iload_n 1, 1) := by decide +kernel
theorem dX7_cellsFrom_2 : decode cX7_cellsFrom 2 = .ok (.ishl, 1) := by decide +kernel
theorem dX7_cellsFrom_3 : decode cX7_cellsFrom 3 = .ok (.iconst 1, 1) := by decide +kernel
theorem dX7_cellsFrom_4 : decode cX7_cellsFrom 4 = .ok (.isub, 1) := by decide +kernel
theorem dX7_cellsFrom_5 : decode cX7_cellsFrom 5 = .ok (.iload_n 0, 1) := by decide +kernel
theorem dX7_cellsFrom_6 : decode cX7_cellsFrom 6 = .ok (.ishl, 1) := by decide +kernel
theorem dX7_cellsFrom_7 : decode cX7_cellsFrom 7 = .ok (.ireturn, 1) := by decide +kernel
theorem dX7_takenCells_0 : decode cX7_takenCells 0 = .ok (.iconst 0, 1) := by decide +kernel
theorem dX7_takenCells_1 : decode cX7_takenCells 1 = .ok (.istore_n 2, 1) := by decide +kernel
theorem dX7_takenCells_2 : decode cX7_takenCells 2 = .ok (.aload_n 0, 1) := by decide +kernel
theorem dX7_takenCells_3 : decode cX7_takenCells 3 = .ok (.getfield 23, 3) := by decide +kernel
theorem dX7_takenCells_6 : decode cX7_takenCells 6 = .ok (.astore_n 3, 1) := by decide +kernel
theorem dX7_takenCells_7 : decode cX7_takenCells 7 = .ok (.aload_n 3, 1) := by decide +kernel
theorem dX7_takenCells_8 : decode cX7_takenCells 8 = .ok (.arraylength, 1) := by decide +kernel
theorem dX7_takenCells_9 : decode cX7_takenCells 9 = .ok (.istore 4, 2) := by decide +kernel
theorem dX7_takenCells_11 : decode cX7_takenCells 11 = .ok (.iconst 0, 1) := by decide +kernel
theorem dX7_takenCells_12 : decode cX7_takenCells 12 = .ok (.istore 5, 2) := by decide +kernel
theorem dX7_takenCells_14 : decode cX7_takenCells 14 = .ok (.iload 5, 2) := by decide +kernel
theorem dX7_takenCells_16 : decode cX7_takenCells 16 = .ok (.iload 4, 2) := by decide +kernel
theorem dX7_takenCells_18 : decode cX7_takenCells 18 = .ok (.if_icmp .ge 45, 3) := by decide +kernel
theorem dX7_takenCells_21 : decode cX7_takenCells 21 = .ok (.aload_n 3, 1) := by decide +kernel
theorem dX7_takenCells_22 : decode cX7_takenCells 22 = .ok (.iload 5, 2) := by decide +kernel
theorem dX7_takenCells_24 : decode cX7_takenCells 24 = .ok (.aaload, 1) := by decide +kernel
theorem dX7_takenCells_25 : decode cX7_takenCells 25 = .ok (.astore 6, 2) := by decide +kernel
theorem dX7_takenCells_27 : decode cX7_takenCells 27 = .ok (.aload 6, 2) := by decide +kernel
theorem dX7_takenCells_29 : decode cX7_takenCells 29 = .ok (.ifnull 28, 3) := by decide +kernel
theorem dX7_takenCells_32 : decode cX7_takenCells 32 = .ok (.aload 6, 2) := by decide +kernel
theorem dX7_takenCells_34 : decode cX7_takenCells 34 = .ok (.getfield 188, 3) := by decide +kernel
theorem dX7_takenCells_37 : decode cX7_takenCells 37 = .ok (.iload_n 1, 1) := by decide +kernel
theorem dX7_takenCells_38 : decode cX7_takenCells 38 = .ok (.if_icmp .ne 19, 3) := by decide +kernel
theorem dX7_takenCells_41 : decode cX7_takenCells 41 = .ok (.iload_n 2, 1) := by decide +kernel
theorem dX7_takenCells_42 : decode cX7_takenCells 42 = .ok (.aload 6, 2) := by decide +kernel
theorem dX7_takenCells_44 : decode cX7_takenCells 44 = .ok (.getfield 191, 3) := by decide +kernel
theorem dX7_takenCells_47 : decode cX7_takenCells 47 = .ok (.aload 6, 2) := by decide +kernel
theorem dX7_takenCells_49 : decode cX7_takenCells 49 = .ok (.getfield 179, 3) := by decide +kernel
theorem dX7_takenCells_52 : decode cX7_takenCells 52 = .ok (.invokestatic 182, 3) := by decide +kernel
theorem dX7_takenCells_55 : decode cX7_takenCells 55 = .ok (.ior, 1) := by decide +kernel
theorem dX7_takenCells_56 : decode cX7_takenCells 56 = .ok (.istore_n 2, 1) := by decide +kernel
theorem dX7_takenCells_57 : decode cX7_takenCells 57 = .ok (.iinc 5 1, 3) := by decide +kernel
theorem dX7_takenCells_60 : decode cX7_takenCells 60 = .ok (.goto (-46), 3) := by decide +kernel
theorem dX7_takenCells_63 : decode cX7_takenCells 63 = .ok (.iload_n 2, 1) := by decide +kernel
theorem dX7_takenCells_64 : decode cX7_takenCells 64 = .ok (.ireturn, 1) := by decide +kernel
theorem dX7_freeCells_0 : decode cX7_freeCells 0 = .ok (.bipush 10, 2) := by decide +kernel
theorem dX7_freeCells_2 : decode cX7_freeCells 2 = .ok (.aload_n 0, 1) := by decide +kernel
theorem dX7_freeCells_3 : decode cX7_freeCells 3 = .ok (.iload_n 1, 1) := by decide +kernel
theorem dX7_freeCells_4 : decode cX7_freeCells 4 = .ok (.invokevirtual 176, 3) := by decide +kernel
theorem dX7_freeCells_7 : decode cX7_freeCells 7 = .ok (.invokestatic 440, 3) := by decide +kernel
theorem dX7_freeCells_10 : decode cX7_freeCells 10 = .ok (.isub, 1) := by decide +kernel
theorem dX7_freeCells_11 : decode cX7_freeCells 11 = .ok (.ireturn, 1) := by decide +kernel
theorem dX7_longestFreeRow_0 : decode cX7_longestFreeRow 0 = .ok (.aload_n 0, 1) := by decide +kernel
theorem dX7_longestFreeRow_1 : decode cX7_longestFreeRow 1 = .ok (.iload_n 1, 1) := by decide +kernel
theorem dX7_longestFreeRow_2 : decode cX7_longestFreeRow 2 = .ok (.invokevirtual 176, 3) := by decide +kernel
theorem dX7_longestFreeRow_5 : decode cX7_longestFreeRow 5 = .ok (.istore_n 2, 1) := by decide +kernel
theorem dX7_longestFreeRow_6 : decode cX7_longestFreeRow 6 = .ok (.iconst 0, 1) := by decide +kernel
theorem dX7_longestFreeRow_7 : decode cX7_longestFreeRow 7 = .ok (.istore_n 3, 1) := by decide +kernel
theorem dX7_longestFreeRow_8 : decode cX7_longestFreeRow 8 = .ok (.iconst 0, 1) := by decide +kernel
theorem dX7_longestFreeRow_9 : decode cX7_longestFreeRow 9 = .ok (.istore 4, 2) := by decide +kernel
theorem dX7_longestFreeRow_11 : decode cX7_longestFreeRow 11 = .ok (.iconst 0, 1) := by decide +kernel
theorem dX7_longestFreeRow_12 : decode cX7_longestFreeRow 12 = .ok (.istore 5, 2) := by decide +kernel
theorem dX7_longestFreeRow_14 : decode cX7_longestFreeRow 14 = .ok (.iload 5, 2) := by decide +kernel
theorem dX7_longestFreeRow_16 : decode cX7_longestFreeRow 16 = .ok (.bipush 10, 2) := by decide +kernel
theorem dX7_longestFreeRow_18 : decode cX7_longestFreeRow 18 = .ok (.if_icmp .ge 35, 3) := by decide +kernel
theorem dX7_longestFreeRow_21 : decode cX7_longestFreeRow 21 = .ok (.iload_n 2, 1) := by decide +kernel
theorem dX7_longestFreeRow_22 : decode cX7_longestFreeRow 22 = .ok (.iload 5, 2) := by decide +kernel
theorem dX7_longestFreeRow_24 : decode cX7_longestFreeRow 24 = .ok (.ishr, 1) := by decide +kernel
theorem dX7_longestFreeRow_25 : decode cX7_longestFreeRow 25 = .ok (.iconst 1, 1) := by decide +kernel
theorem dX7_longestFreeRow_26 : decode cX7_longestFreeRow 26 = .ok (.iand, 1) := by decide +kernel
theorem dX7_longestFreeRow_27 : decode cX7_longestFreeRow 27 = .ok (.ifCond .ne 10, 3) := by decide +kernel
theorem dX7_longestFreeRow_30 : decode cX7_longestFreeRow 30 = .ok (.iload 4, 2) := by decide +kernel
theorem dX7_longestFreeRow_32 : decode cX7_longestFreeRow 32 = .ok (.iconst 1, 1) := by decide +kernel
theorem dX7_longestFreeRow_33 : decode cX7_longestFreeRow 33 = .ok (.iadd, 1) := by decide +kernel
theorem dX7_longestFreeRow_34 : decode cX7_longestFreeRow 34 = .ok (.goto 4, 3) := by decide +kernel
theorem dX7_longestFreeRow_37 : decode cX7_longestFreeRow 37 = .ok (.iconst 0, 1) := by decide +kernel
theorem dX7_longestFreeRow_38 : decode cX7_longestFreeRow 38 = .ok (.istore 4, 2) := by decide +kernel
theorem dX7_longestFreeRow_40 : decode cX7_longestFreeRow 40 = .ok (.iload_n 3, 1) := by decide +kernel
theorem dX7_longestFreeRow_41 : decode cX7_longestFreeRow 41 = .ok (.iload 4, 2) := by decide +kernel
theorem dX7_longestFreeRow_43 : decode cX7_longestFreeRow 43 = .ok (.invokestatic 445, 3) := by decide +kernel
theorem dX7_longestFreeRow_46 : decode cX7_longestFreeRow 46 = .ok (.istore_n 3, 1) := by decide +kernel
theorem dX7_longestFreeRow_47 : decode cX7_longestFreeRow 47 = .ok (.iinc 5 1, 3) := by decide +kernel
theorem dX7_longestFreeRow_50 : decode cX7_longestFreeRow 50 = .ok (.goto (-36), 3) := by decide +kernel
theorem dX7_longestFreeRow_53 : decode cX7_longestFreeRow 53 = .ok (.iload_n 3, 1) := by decide +kernel
theorem dX7_longestFreeRow_54 : decode cX7_longestFreeRow 54 = .ok (.ireturn, 1) := by decide +kernel
theorem dX7_sumsOfWidths_0 : decode cX7_sumsOfWidths 0 = .ok (.iconst 1, 1) := by decide +kernel
theorem dX7_sumsOfWidths_1 : decode cX7_sumsOfWidths 1 = .ok (.istore_n 2, 1) := by decide +kernel
theorem dX7_sumsOfWidths_2 : decode cX7_sumsOfWidths 2 = .ok (.aload_n 0, 1) := by decide +kernel
theorem dX7_sumsOfWidths_3 : decode cX7_sumsOfWidths 3 = .ok (.getfield 23, 3) := by decide +kernel
theorem dX7_sumsOfWidths_6 : decode cX7_sumsOfWidths 6 = .ok (.astore_n 3, 1) := by decide +kernel
theorem dX7_sumsOfWidths_7 : decode cX7_sumsOfWidths 7 = .ok (.aload_n 3, 1) := by decide +kernel
theorem dX7_sumsOfWidths_8 : decode cX7_sumsOfWidths 8 = .ok (.arraylength, 1) := by decide +kernel
theorem dX7_sumsOfWidths_9 : decode cX7_sumsOfWidths 9 = .ok (.istore 4, 2) := by decide +kernel
theorem dX7_sumsOfWidths_11 : decode cX7_sumsOfWidths 11 = .ok (.iconst 0, 1) := by decide +kernel
theorem dX7_sumsOfWidths_12 : decode cX7_sumsOfWidths 12 = .ok (.istore 5, 2) := by decide +kernel
theorem dX7_sumsOfWidths_14 : decode cX7_sumsOfWidths 14 = .ok (.iload 5, 2) := by decide +kernel
theorem dX7_sumsOfWidths_16 : decode cX7_sumsOfWidths 16 = .ok (.iload 4, 2) := by decide +kernel
theorem dX7_sumsOfWidths_18 : decode cX7_sumsOfWidths 18 = .ok (.if_icmp .ge 54, 3) := by decide +kernel
theorem dX7_sumsOfWidths_21 : decode cX7_sumsOfWidths 21 = .ok (.aload_n 3, 1) := by decide +kernel
theorem dX7_sumsOfWidths_22 : decode cX7_sumsOfWidths 22 = .ok (.iload 5, 2) := by decide +kernel
theorem dX7_sumsOfWidths_24 : decode cX7_sumsOfWidths 24 = .ok (.aaload, 1) := by decide +kernel
theorem dX7_sumsOfWidths_25 : decode cX7_sumsOfWidths 25 = .ok (.astore 6, 2) := by decide +kernel
theorem dX7_sumsOfWidths_27 : decode cX7_sumsOfWidths 27 = .ok (.aload 6, 2) := by decide +kernel
theorem dX7_sumsOfWidths_29 : decode cX7_sumsOfWidths 29 = .ok (.ifnull 37, 3) := by decide +kernel
theorem dX7_sumsOfWidths_32 : decode cX7_sumsOfWidths 32 = .ok (.aload 6, 2) := by decide +kernel
theorem dX7_sumsOfWidths_34 : decode cX7_sumsOfWidths 34 = .ok (.invokevirtual 450, 3) := by decide +kernel
theorem dX7_sumsOfWidths_37 : decode cX7_sumsOfWidths 37 = .ok (.ifCond .eq 29, 3) := by decide +kernel
theorem dX7_sumsOfWidths_40 : decode cX7_sumsOfWidths 40 = .ok (.aload 6, 2) := by decide +kernel
theorem dX7_sumsOfWidths_42 : decode cX7_sumsOfWidths 42 = .ok (.getfield 168, 3) := by decide +kernel
theorem dX7_sumsOfWidths_45 : decode cX7_sumsOfWidths 45 = .ok (.iload_n 1, 1) := by decide +kernel
theorem dX7_sumsOfWidths_46 : decode cX7_sumsOfWidths 46 = .ok (.if_icmp .gt 20, 3) := by decide +kernel
theorem dX7_sumsOfWidths_49 : decode cX7_sumsOfWidths 49 = .ok (.iload_n 2, 1) := by decide +kernel
theorem dX7_sumsOfWidths_50 : decode cX7_sumsOfWidths 50 = .ok (.iload_n 2, 1) := by decide +kernel
theorem dX7_sumsOfWidths_51 : decode cX7_sumsOfWidths 51 = .ok (.aload 6, 2) := by decide +kernel
theorem dX7_sumsOfWidths_53 : decode cX7_sumsOfWidths 53 = .ok (.getfield 179, 3) := by decide +kernel
theorem dX7_sumsOfWidths_56 : decode cX7_sumsOfWidths 56 = .ok (.ishl, 1) := by decide +kernel
theorem dX7_sumsOfWidths_57 : decode cX7_sumsOfWidths 57 = .ok (.iconst 0, 1) := by decide +kernel
theorem dX7_sumsOfWidths_58 : decode cX7_sumsOfWidths 58 = .ok (.bipush 11, 2) := by decide +kernel
theorem dX7_sumsOfWidths_60 : decode cX7_sumsOfWidths 60 = .ok (.invokestatic 182, 3) := by decide +kernel
theorem dX7_sumsOfWidths_63 : decode cX7_sumsOfWidths 63 = .ok (.iand, 1) := by decide +kernel
theorem dX7_sumsOfWidths_64 : decode cX7_sumsOfWidths 64 = .ok (.ior, 1) := by decide +kernel
theorem dX7_sumsOfWidths_65 : decode cX7_sumsOfWidths 65 = .ok (.istore_n 2, 1) := by decide +kernel
theorem dX7_sumsOfWidths_66 : decode cX7_sumsOfWidths 66 = .ok (.iinc 5 1, 3) := by decide +kernel
theorem dX7_sumsOfWidths_69 : decode cX7_sumsOfWidths 69 = .ok (.goto (-55), 3) := by decide +kernel
theorem dX7_sumsOfWidths_72 : decode cX7_sumsOfWidths 72 = .ok (.iload_n 2, 1) := by decide +kernel
theorem dX7_sumsOfWidths_73 : decode cX7_sumsOfWidths 73 = .ok (.ireturn, 1) := by decide +kernel
end
section
theorem dX8_init_0 : decode cX8_init 0 = .ok (.aload_n 0, 1) := by decide +kernel
theorem dX8_init_1 : decode cX8_init 1 = .ok (.invokespecial 3, 3) := by decide +kernel
theorem dX8_init_4 : decode cX8_init 4 = .ok (.aload_n 0, 1) := by decide +kernel
theorem dX8_init_5 : decode cX8_init 5 = .ok (.new 9, 3) := by decide +kernel
theorem dX8_init_8 : decode cX8_init 8 = .ok (.dup, 1) := by decide +kernel
theorem dX8_init_9 : decode cX8_init 9 = .ok (.invokespecial 11, 3) := by decide +kernel
theorem dX8_init_12 : decode cX8_init 12 = .ok (.putfield 12, 3) := by decide +kernel
theorem dX8_init_15 : decode cX8_init 15 = .ok (.aload_n 0, 1) := by decide +kernel
theorem dX8_init_16 : decode cX8_init 16 = .ok (.ldc2_w 18, 3) := by decide +kernel
theorem dX8_init_19 : decode cX8_init 19 = .ok (.putfield 20, 3) := by decide +kernel
theorem dX8_init_22 : decode cX8_init 22 = .ok (.aload_n 0, 1) := by decide +kernel
theorem dX8_init_23 : decode cX8_init 23 = .ok (.fconst 1, 1) := by decide +kernel
theorem dX8_init_24 : decode cX8_init 24 = .ok (.putfield 24, 3) := by decide +kernel
theorem dX8_init_27 : decode cX8_init 27 = .ok (.aload_n 0, 1) := by decide +kernel
theorem dX8_init_28 : decode cX8_init 28 = .ok (.iconst 3, 1) := by decide +kernel
theorem dX8_init_29 : decode cX8_init 29 = .ok (.newarray .double, 2) := by decide +kernel
theorem dX8_init_31 : decode cX8_init 31 = .ok (.putfield 28, 3) := by decide +kernel
theorem dX8_init_34 : decode cX8_init 34 = .ok (.return_, 1) := by decide +kernel
theorem dX8_copy_0 : decode cX8_copy 0 = .ok (.new 13, 3) := by decide +kernel
theorem dX8_copy_3 : decode cX8_copy 3 = .ok (.dup, 1) := by decide +kernel
theorem dX8_copy_4 : decode cX8_copy 4 = .ok (.invokespecial 32, 3) := by decide +kernel
theorem dX8_copy_7 : decode cX8_copy 7 = .ok (.astore_n 1, 1) := by decide +kernel
theorem dX8_copy_8 : decode cX8_copy 8 = .ok (.aload_n 1, 1) := by decide +kernel
theorem dX8_copy_9 : decode cX8_copy 9 = .ok (.getfield 12, 3) := by decide +kernel
theorem dX8_copy_12 : decode cX8_copy 12 = .ok (.aload_n 0, 1) := by decide +kernel
theorem dX8_copy_13 : decode cX8_copy 13 = .ok (.getfield 12, 3) := by decide +kernel
theorem dX8_copy_16 : decode cX8_copy 16 = .ok (.invokevirtual 33, 3) := by decide +kernel
theorem dX8_copy_19 : decode cX8_copy 19 = .ok (.pop, 1) := by decide +kernel
theorem dX8_copy_20 : decode cX8_copy 20 = .ok (.aload_n 1, 1) := by decide +kernel
theorem dX8_copy_21 : decode cX8_copy 21 = .ok (.aload_n 0, 1) := by decide +kernel
theorem dX8_copy_22 : decode cX8_copy 22 = .ok (.getfield 20, 3) := by decide +kernel
theorem dX8_copy_25 : decode cX8_copy 25 = .ok (.putfield 20, 3) := by decide +kernel
theorem dX8_copy_28 : decode cX8_copy 28 = .ok (.aload_n 1, 1) := by decide +kernel
theorem dX8_copy_29 : decode cX8_copy 29 = .ok (.aload_n 0, 1) := by decide +kernel
theorem dX8_copy_30 : decode cX8_copy 30 = .ok (.getfield 24, 3) := by decide +kernel
theorem dX8_copy_33 : decode cX8_copy 33 = .ok (.putfield 24, 3) := by decide +kernel
theorem dX8_copy_36 : decode cX8_copy 36 = .ok (.aload_n 1, 1) := by decide +kernel
theorem dX8_copy_37 : decode cX8_copy 37 = .ok (.aload_n 0, 1) := by decide +kernel
theorem dX8_copy_38 : decode cX8_copy 38 = .ok (.getfield 37, 3) := by decide +kernel
theorem dX8_copy_41 : decode cX8_copy 41 = .ok (.putfield 37, 3) := by decide +kernel
theorem dX8_copy_44 : decode cX8_copy 44 = .ok (.aload_n 1, 1) := by decide +kernel
theorem dX8_copy_45 : decode cX8_copy 45 = .ok (.aload_n 0, 1) := by decide +kernel
theorem dX8_copy_46 : decode cX8_copy 46 = .ok (.getfield 41, 3) := by decide +kernel
theorem dX8_copy_49 : decode cX8_copy 49 = .ok (.putfield 41, 3) := by decide +kernel
theorem dX8_copy_52 : decode cX8_copy 52 = .ok (.aload_n 1, 1) := by decide +kernel
theorem dX8_copy_53 : decode cX8_copy 53 = .ok (.aload_n 0, 1) := by decide +kernel
theorem dX8_copy_54 : decode cX8_copy 54 = .ok (.getfield 44, 3) := by decide +kernel
theorem dX8_copy_57 : decode cX8_copy 57 = .ok (.putfield 44, 3) := by decide +kernel
theorem dX8_copy_60 : decode cX8_copy 60 = .ok (.aload_n 1, 1) := by decide +kernel
theorem dX8_copy_61 : decode cX8_copy 61 = .ok (.aload_n 0, 1) := by decide +kernel
theorem dX8_copy_62 : decode cX8_copy 62 = .ok (.getfield 48, 3) := by decide +kernel
theorem dX8_copy_65 : decode cX8_copy 65 = .ok (.putfield 48, 3) := by decide +kernel
theorem dX8_copy_68 : decode cX8_copy 68 = .ok (.aload_n 1, 1) := by decide +kernel
theorem dX8_copy_69 : decode cX8_copy 69 = .ok (.aload_n 0, 1) := by decide +kernel
theorem dX8_copy_70 : decode cX8_copy 70 = .ok (.getfield 51, 3) := by decide +kernel
theorem dX8_copy_73 : decode cX8_copy 73 = .ok (.putfield 51, 3) := by decide +kernel
theorem dX8_copy_76 : decode cX8_copy 76 = .ok (.aload_n 0, 1) := by decide +kernel
theorem dX8_copy_77 : decode cX8_copy 77 = .ok (.getfield 28, 3) := by decide +kernel
theorem dX8_copy_80 : decode cX8_copy 80 = .ok (.iconst 0, 1) := by decide +kernel
theorem dX8_copy_81 : decode cX8_copy 81 = .ok (.aload_n 1, 1) := by decide +kernel
theorem dX8_copy_82 : decode cX8_copy 82 = .ok (.getfield 28, 3) := by decide +kernel
theorem dX8_copy_85 : decode cX8_copy 85 = .ok (.iconst 0, 1) := by decide +kernel
theorem dX8_copy_86 : decode cX8_copy 86 = .ok (.iconst 3, 1) := by decide +kernel
theorem dX8_copy_87 : decode cX8_copy 87 = .ok (.invokestatic 54, 3) := by decide +kernel
theorem dX8_copy_90 : decode cX8_copy 90 = .ok (.aload_n 1, 1) := by decide +kernel
theorem dX8_copy_91 : decode cX8_copy 91 = .ok (.areturn, 1) := by decide +kernel
theorem dX8_gives_0 : decode cX8_gives 0 = .ok (.aload_n 0, 1) := by decide +kernel
theorem dX8_gives_1 : decode cX8_gives 1 = .ok (.getfield 24, 3) := by decide +kernel
theorem dX8_gives_4 : decode cX8_gives 4 = .ok (.f2d, 1) := by decide +kernel
theorem dX8_gives_5 : decode cX8_gives 5 = .ok (.ldc2_w 60, 3) := by decide +kernel
theorem dX8_gives_8 : decode cX8_gives 8 = .ok (.dmul, 1) := by decide +kernel
theorem dX8_gives_9 : decode cX8_gives 9 = .ok (.aload_n 0, 1) := by decide +kernel
theorem dX8_gives_10 : decode cX8_gives 10 = .ok (.getfield 20, 3) := by decide +kernel
theorem dX8_gives_13 : decode cX8_gives 13 = .ok (.ldc2_w 18, 3) := by decide +kernel
theorem dX8_gives_16 : decode cX8_gives 16 = .ok (.dsub, 1) := by decide +kernel
theorem dX8_gives_17 : decode cX8_gives 17 = .ok (.ldc2_w 62, 3) := by decide +kernel
theorem dX8_gives_20 : decode cX8_gives 20 = .ok (.ddiv, 1) := by decide +kernel
theorem dX8_gives_21 : decode cX8_gives 21 = .ok (.dsub, 1) := by decide +kernel
theorem dX8_gives_22 : decode cX8_gives 22 = .ok (.aload_n 0, 1) := by decide +kernel
theorem dX8_gives_23 : decode cX8_gives 23 = .ok (.getfield 37, 3) := by decide +kernel
theorem dX8_gives_26 : decode cX8_gives 26 = .ok (.ifCond .eq 9, 3) := by decide +kernel
theorem dX8_gives_29 : decode cX8_gives 29 = .ok (.ldc2_w 64, 3) := by decide +kernel
theorem dX8_gives_32 : decode cX8_gives 32 = .ok (.goto 4, 3) := by decide +kernel
theorem dX8_gives_35 : decode cX8_gives 35 = .ok (.dconst 0, 1) := by decide +kernel
theorem dX8_gives_36 : decode cX8_gives 36 = .ok (.dsub, 1) := by decide +kernel
theorem dX8_gives_37 : decode cX8_gives 37 = .ok (.dreturn, 1) := by decide +kernel
theorem dX8_step_0 : decode cX8_step 0 = .ok (.aload_n 0, 1) := by decide +kernel
theorem dX8_step_1 : decode cX8_step 1 = .ok (.getfield 41, 3) := by decide +kernel
theorem dX8_step_4 : decode cX8_step 4 = .ok (.ifCond .eq 92, 3) := by decide +kernel
theorem dX8_step_7 : decode cX8_step 7 = .ok (.aload_n 0, 1) := by decide +kernel
theorem dX8_step_8 : decode cX8_step 8 = .ok (.getfield 20, 3) := by decide +kernel
theorem dX8_step_11 : decode cX8_step 11 = .ok (.aload_n 0, 1) := by decide +kernel
theorem dX8_step_12 : decode cX8_step 12 = .ok (.getfield 12, 3) := by decide +kernel
theorem dX8_step_15 : decode cX8_step 15 = .ok (.aload_n 0, 1) := by decide +kernel
theorem dX8_step_16 : decode cX8_step 16 = .ok (.getfield 44, 3) := by decide +kernel
theorem dX8_step_19 : decode cX8_step 19 = .ok (.invokevirtual 66, 3) := by decide +kernel
theorem dX8_step_22 : decode cX8_step 22 = .ok (.checkcast 70, 3) := by decide +kernel
theorem dX8_step_25 : decode cX8_step 25 = .ok (.iconst 1, 1) := by decide +kernel
theorem dX8_step_26 : decode cX8_step 26 = .ok (.iaload, 1) := by decide +kernel
theorem dX8_step_27 : decode cX8_step 27 = .ok (.i2d, 1) := by decide +kernel
theorem dX8_step_28 : decode cX8_step 28 = .ok (.dcmp .l, 1) := by decide +kernel
theorem dX8_step_29 : decode cX8_step 29 = .ok (.ifCond .ne 67, 3) := by decide +kernel
theorem dX8_step_32 : decode cX8_step 32 = .ok (.aload_n 0, 1) := by decide +kernel
theorem dX8_step_33 : decode cX8_step 33 = .ok (.getfield 48, 3) := by decide +kernel
theorem dX8_step_36 : decode cX8_step 36 = .ok (.aload_n 0, 1) := by decide +kernel
theorem dX8_step_37 : decode cX8_step 37 = .ok (.getfield 12, 3) := by decide +kernel
theorem dX8_step_40 : decode cX8_step 40 = .ok (.aload_n 0, 1) := by decide +kernel
theorem dX8_step_41 : decode cX8_step 41 = .ok (.getfield 44, 3) := by decide +kernel
theorem dX8_step_44 : decode cX8_step 44 = .ok (.invokevirtual 66, 3) := by decide +kernel
theorem dX8_step_47 : decode cX8_step 47 = .ok (.checkcast 70, 3) := by decide +kernel
theorem dX8_step_50 : decode cX8_step 50 = .ok (.iconst 2, 1) := by decide +kernel
theorem dX8_step_51 : decode cX8_step 51 = .ok (.iaload, 1) := by decide +kernel
theorem dX8_step_52 : decode cX8_step 52 = .ok (.if_icmp .ne 44, 3) := by decide +kernel
theorem dX8_step_55 : decode cX8_step 55 = .ok (.aload_n 0, 1) := by decide +kernel
theorem dX8_step_56 : decode cX8_step 56 = .ok (.dup, 1) := by decide +kernel
theorem dX8_step_57 : decode cX8_step 57 = .ok (.getfield 44, 3) := by decide +kernel
theorem dX8_step_60 : decode cX8_step 60 = .ok (.iconst 1, 1) := by decide +kernel
theorem dX8_step_61 : decode cX8_step 61 = .ok (.iadd, 1) := by decide +kernel
theorem dX8_step_62 : decode cX8_step 62 = .ok (.putfield 44, 3) := by decide +kernel
theorem dX8_step_65 : decode cX8_step 65 = .ok (.aload_n 0, 1) := by decide +kernel
theorem dX8_step_66 : decode cX8_step 66 = .ok (.iconst 0, 1) := by decide +kernel
theorem dX8_step_67 : decode cX8_step 67 = .ok (.putfield 48, 3) := by decide +kernel
theorem dX8_step_70 : decode cX8_step 70 = .ok (.aload_n 0, 1) := by decide +kernel
theorem dX8_step_71 : decode cX8_step 71 = .ok (.aload_n 0, 1) := by decide +kernel
theorem dX8_step_72 : decode cX8_step 72 = .ok (.getfield 44, 3) := by decide +kernel
theorem dX8_step_75 : decode cX8_step 75 = .ok (.aload_n 0, 1) := by decide +kernel
theorem dX8_step_76 : decode cX8_step 76 = .ok (.getfield 12, 3) := by decide +kernel
theorem dX8_step_79 : decode cX8_step 79 = .ok (.invokevirtual 72, 3) := by decide +kernel
theorem dX8_step_82 : decode cX8_step 82 = .ok (.if_icmp .ge 7, 3) := by decide +kernel
theorem dX8_step_85 : decode cX8_step 85 = .ok (.iconst 1, 1) := by decide +kernel
theorem dX8_step_86 : decode cX8_step 86 = .ok (.goto 4, 3) := by decide +kernel
theorem dX8_step_89 : decode cX8_step 89 = .ok (.iconst 0, 1) := by decide +kernel
theorem dX8_step_90 : decode cX8_step 90 = .ok (.putfield 41, 3) := by decide +kernel
theorem dX8_step_93 : decode cX8_step 93 = .ok (.goto (-93), 3) := by decide +kernel
theorem dX8_step_96 : decode cX8_step 96 = .ok (.aload_n 0, 1) := by decide +kernel
theorem dX8_step_97 : decode cX8_step 97 = .ok (.getfield 41, 3) := by decide +kernel
theorem dX8_step_100 : decode cX8_step 100 = .ok (.ifCond .eq 73, 3) := by decide +kernel
theorem dX8_step_103 : decode cX8_step 103 = .ok (.aload_n 0, 1) := by decide +kernel
theorem dX8_step_104 : decode cX8_step 104 = .ok (.dup, 1) := by decide +kernel
theorem dX8_step_105 : decode cX8_step 105 = .ok (.getfield 76, 3) := by decide +kernel
theorem dX8_step_108 : decode cX8_step 108 = .ok (.aload_n 0, 1) := by decide +kernel
theorem dX8_step_109 : decode cX8_step 109 = .ok (.getfield 51, 3) := by decide +kernel
theorem dX8_step_112 : decode cX8_step 112 = .ok (.bipush 96, 2) := by decide +kernel
theorem dX8_step_114 : decode cX8_step 114 = .ok (.irem, 1) := by decide +kernel
theorem dX8_step_115 : decode cX8_step 115 = .ok (.bipush 32, 2) := by decide +kernel
theorem dX8_step_117 : decode cX8_step 117 = .ok (.bipush 79, 2) := by decide +kernel
theorem dX8_step_119 : decode cX8_step 119 = .ok (.invokestatic 79, 3) := by decide +kernel
theorem dX8_step_122 : decode cX8_step 122 = .ok (.ifCond .eq 7, 3) := by decide +kernel
theorem dX8_step_125 : decode cX8_step 125 = .ok (.iconst 2, 1) := by decide +kernel
theorem dX8_step_126 : decode cX8_step 126 = .ok (.goto 4, 3) := by decide +kernel
theorem dX8_step_129 : decode cX8_step 129 = .ok (.iconst 1, 1) := by decide +kernel
theorem dX8_step_130 : decode cX8_step 130 = .ok (.iadd, 1) := by decide +kernel
theorem dX8_step_131 : decode cX8_step 131 = .ok (.putfield 76, 3) := by decide +kernel
theorem dX8_step_134 : decode cX8_step 134 = .ok (.aload_n 0, 1) := by decide +kernel
theorem dX8_step_135 : decode cX8_step 135 = .ok (.aload_n 0, 1) := by decide +kernel
theorem dX8_step_136 : decode cX8_step 136 = .ok (.getfield 12, 3) := by decide +kernel
theorem dX8_step_139 : decode cX8_step 139 = .ok (.aload_n 0, 1) := by decide +kernel
theorem dX8_step_140 : decode cX8_step 140 = .ok (.getfield 44, 3) := by decide +kernel
theorem dX8_step_143 : decode cX8_step 143 = .ok (.invokevirtual 66, 3) := by decide +kernel
theorem dX8_step_146 : decode cX8_step 146 = .ok (.checkcast 70, 3) := by decide +kernel
theorem dX8_step_149 : decode cX8_step 149 = .ok (.iconst 0, 1) := by decide +kernel
theorem dX8_step_150 : decode cX8_step 150 = .ok (.iaload, 1) := by decide +kernel
theorem dX8_step_151 : decode cX8_step 151 = .ok (.aload_n 0, 1) := by decide +kernel
theorem dX8_step_152 : decode cX8_step 152 = .ok (.getfield 12, 3) := by decide +kernel
theorem dX8_step_155 : decode cX8_step 155 = .ok (.aload_n 0, 1) := by decide +kernel
theorem dX8_step_156 : decode cX8_step 156 = .ok (.getfield 44, 3) := by decide +kernel
theorem dX8_step_159 : decode cX8_step 159 = .ok (.invokevirtual 66, 3) := by decide +kernel
theorem dX8_step_162 : decode cX8_step 162 = .ok (.checkcast 70, 3) := by decide +kernel
theorem dX8_step_165 : decode cX8_step 165 = .ok (.iconst 1, 1) := by decide +kernel
theorem dX8_step_166 : decode cX8_step 166 = .ok (.iaload, 1) := by decide +kernel
theorem dX8_step_167 : decode cX8_step 167 = .ok (.invokevirtual 83, 3) := by decide +kernel
theorem dX8_step_170 : decode cX8_step 170 = .ok (.goto 37, 3) := by decide +kernel
theorem dX8_step_173 : decode cX8_step 173 = .ok (.aload_n 0, 1) := by decide +kernel
theorem dX8_step_174 : decode cX8_step 174 = .ok (.dup, 1) := by decide +kernel
theorem dX8_step_175 : decode cX8_step 175 = .ok (.getfield 20, 3) := by decide +kernel
theorem dX8_step_178 : decode cX8_step 178 = .ok (.aload_n 0, 1) := by decide +kernel
theorem dX8_step_179 : decode cX8_step 179 = .ok (.getfield 20, 3) := by decide +kernel
theorem dX8_step_182 : decode cX8_step 182 = .ok (.ldc2_w 18, 3) := by decide +kernel
theorem dX8_step_185 : decode cX8_step 185 = .ok (.dsub, 1) := by decide +kernel
theorem dX8_step_186 : decode cX8_step 186 = .ok (.aload_n 0, 1) := by decide +kernel
theorem dX8_step_187 : decode cX8_step 187 = .ok (.getfield 37, 3) := by decide +kernel
theorem dX8_step_190 : decode cX8_step 190 = .ok (.ifCond .eq 9, 3) := by decide +kernel
theorem dX8_step_193 : decode cX8_step 193 = .ok (.ldc2_w 87, 3) := by decide +kernel
theorem dX8_step_196 : decode cX8_step 196 = .ok (.goto 6, 3) := by decide +kernel
theorem dX8_step_199 : decode cX8_step 199 = .ok (.ldc2_w 89, 3) := by decide +kernel
theorem dX8_step_202 : decode cX8_step 202 = .ok (.ddiv, 1) := by decide +kernel
theorem dX8_step_203 : decode cX8_step 203 = .ok (.dsub, 1) := by decide +kernel
theorem dX8_step_204 : decode cX8_step 204 = .ok (.putfield 20, 3) := by decide +kernel
theorem dX8_step_207 : decode cX8_step 207 = .ok (.iconst 0, 1) := by decide +kernel
theorem dX8_step_208 : decode cX8_step 208 = .ok (.istore_n 1, 1) := by decide +kernel
theorem dX8_step_209 : decode cX8_step 209 = .ok (.iload_n 1, 1) := by decide +kernel
theorem dX8_step_210 : decode cX8_step 210 = .ok (.iconst 3, 1) := by decide +kernel
theorem dX8_step_211 : decode cX8_step 211 = .ok (.if_icmp .ge 40, 3) := by decide +kernel
theorem dX8_step_214 : decode cX8_step 214 = .ok (.aload_n 0, 1) := by decide +kernel
theorem dX8_step_215 : decode cX8_step 215 = .ok (.getfield 28, 3) := by decide +kernel
theorem dX8_step_218 : decode cX8_step 218 = .ok (.iload_n 1, 1) := by decide +kernel
theorem dX8_step_219 : decode cX8_step 219 = .ok (.dup2, 1) := by decide +kernel
theorem dX8_step_220 : decode cX8_step 220 = .ok (.daload, 1) := by decide +kernel
theorem dX8_step_221 : decode cX8_step 221 = .ok (.dconst 0, 1) := by decide +kernel
theorem dX8_step_222 : decode cX8_step 222 = .ok (.aload_n 0, 1) := by decide +kernel
theorem dX8_step_223 : decode cX8_step 223 = .ok (.getfield 20, 3) := by decide +kernel
theorem dX8_step_226 : decode cX8_step 226 = .ok (.getstatic 91, 3) := by decide +kernel
theorem dX8_step_229 : decode cX8_step 229 = .ok (.iload_n 1, 1) := by decide +kernel
theorem dX8_step_230 : decode cX8_step 230 = .ok (.daload, 1) := by decide +kernel
theorem dX8_step_231 : decode cX8_step 231 = .ok (.dadd, 1) := by decide +kernel
theorem dX8_step_232 : decode cX8_step 232 = .ok (.ldc2_w 94, 3) := by decide +kernel
theorem dX8_step_235 : decode cX8_step 235 = .ok (.dsub, 1) := by decide +kernel
theorem dX8_step_236 : decode cX8_step 236 = .ok (.invokestatic 96, 3) := by decide +kernel
theorem dX8_step_239 : decode cX8_step 239 = .ok (.ldc2_w 102, 3) := by decide +kernel
theorem dX8_step_242 : decode cX8_step 242 = .ok (.ddiv, 1) := by decide +kernel
theorem dX8_step_243 : decode cX8_step 243 = .ok (.dadd, 1) := by decide +kernel
theorem dX8_step_244 : decode cX8_step 244 = .ok (.dastore, 1) := by decide +kernel
theorem dX8_step_245 : decode cX8_step 245 = .ok (.iinc 1 1, 3) := by decide +kernel
theorem dX8_step_248 : decode cX8_step 248 = .ok (.goto (-39), 3) := by decide +kernel
theorem dX8_step_251 : decode cX8_step 251 = .ok (.aload_n 0, 1) := by decide +kernel
theorem dX8_step_252 : decode cX8_step 252 = .ok (.dup, 1) := by decide +kernel
theorem dX8_step_253 : decode cX8_step 253 = .ok (.getfield 51, 3) := by decide +kernel
theorem dX8_step_256 : decode cX8_step 256 = .ok (.iconst 1, 1) := by decide +kernel
theorem dX8_step_257 : decode cX8_step 257 = .ok (.iadd, 1) := by decide +kernel
theorem dX8_step_258 : decode cX8_step 258 = .ok (.putfield 51, 3) := by decide +kernel
theorem dX8_step_261 : decode cX8_step 261 = .ok (.return_, 1) := by decide +kernel
theorem dX8_lit_0 : decode cX8_lit 0 = .ok (.aload_n 0, 1) := by decide +kernel
theorem dX8_lit_1 : decode cX8_lit 1 = .ok (.getfield 20, 3) := by decide +kernel
theorem dX8_lit_4 : decode cX8_lit 4 = .ok (.iload_n 2, 1) := by decide +kernel
theorem dX8_lit_5 : decode cX8_lit 5 = .ok (.i2d, 1) := by decide +kernel
theorem dX8_lit_6 : decode cX8_lit 6 = .ok (.dcmp .l, 1) := by decide +kernel
theorem dX8_lit_7 : decode cX8_lit 7 = .ok (.ifCond .ne 16, 3) := by decide +kernel
theorem dX8_lit_10 : decode cX8_lit 10 = .ok (.aload_n 0, 1) := by decide +kernel
theorem dX8_lit_11 : decode cX8_lit 11 = .ok (.dup, 1) := by decide +kernel
theorem dX8_lit_12 : decode cX8_lit 12 = .ok (.getfield 48, 3) := by decide +kernel
theorem dX8_lit_15 : decode cX8_lit 15 = .ok (.iconst 1, 1) := by decide +kernel
theorem dX8_lit_16 : decode cX8_lit 16 = .ok (.iadd, 1) := by decide +kernel
theorem dX8_lit_17 : decode cX8_lit 17 = .ok (.putfield 48, 3) := by decide +kernel
theorem dX8_lit_20 : decode cX8_lit 20 = .ok (.goto 97, 3) := by decide +kernel
theorem dX8_lit_23 : decode cX8_lit 23 = .ok (.aload_n 0, 1) := by decide +kernel
theorem dX8_lit_24 : decode cX8_lit 24 = .ok (.getfield 20, 3) := by decide +kernel
theorem dX8_lit_27 : decode cX8_lit 27 = .ok (.iload_n 2, 1) := by decide +kernel
theorem dX8_lit_28 : decode cX8_lit 28 = .ok (.i2d, 1) := by decide +kernel
theorem dX8_lit_29 : decode cX8_lit 29 = .ok (.dcmp .l, 1) := by decide +kernel
theorem dX8_lit_30 : decode cX8_lit 30 = .ok (.ifCond .le 37, 3) := by decide +kernel
theorem dX8_lit_33 : decode cX8_lit 33 = .ok (.aload_n 0, 1) := by decide +kernel
theorem dX8_lit_34 : decode cX8_lit 34 = .ok (.iload_n 2, 1) := by decide +kernel
theorem dX8_lit_35 : decode cX8_lit 35 = .ok (.i2d, 1) := by decide +kernel
theorem dX8_lit_36 : decode cX8_lit 36 = .ok (.aload_n 0, 1) := by decide +kernel
theorem dX8_lit_37 : decode cX8_lit 37 = .ok (.getfield 20, 3) := by decide +kernel
theorem dX8_lit_40 : decode cX8_lit 40 = .ok (.iload_n 1, 1) := by decide +kernel
theorem dX8_lit_41 : decode cX8_lit 41 = .ok (.i2d, 1) := by decide +kernel
theorem dX8_lit_42 : decode cX8_lit 42 = .ok (.aload_n 0, 1) := by decide +kernel
theorem dX8_lit_43 : decode cX8_lit 43 = .ok (.getfield 20, 3) := by decide +kernel
theorem dX8_lit_46 : decode cX8_lit 46 = .ok (.ldc2_w 18, 3) := by decide +kernel
theorem dX8_lit_49 : decode cX8_lit 49 = .ok (.dsub, 1) := by decide +kernel
theorem dX8_lit_50 : decode cX8_lit 50 = .ok (.ldc2_w 89, 3) := by decide +kernel
theorem dX8_lit_53 : decode cX8_lit 53 = .ok (.ddiv, 1) := by decide +kernel
theorem dX8_lit_54 : decode cX8_lit 54 = .ok (.invokestatic 104, 3) := by decide +kernel
theorem dX8_lit_57 : decode cX8_lit 57 = .ok (.dsub, 1) := by decide +kernel
theorem dX8_lit_58 : decode cX8_lit 58 = .ok (.invokestatic 96, 3) := by decide +kernel
theorem dX8_lit_61 : decode cX8_lit 61 = .ok (.putfield 20, 3) := by decide +kernel
theorem dX8_lit_64 : decode cX8_lit 64 = .ok (.goto 53, 3) := by decide +kernel
theorem dX8_lit_67 : decode cX8_lit 67 = .ok (.aload_n 0, 1) := by decide +kernel
theorem dX8_lit_68 : decode cX8_lit 68 = .ok (.invokevirtual 107, 3) := by decide +kernel
theorem dX8_lit_71 : decode cX8_lit 71 = .ok (.dconst 1, 1) := by decide +kernel
theorem dX8_lit_72 : decode cX8_lit 72 = .ok (.dcmp .g, 1) := by decide +kernel
theorem dX8_lit_73 : decode cX8_lit 73 = .ok (.ifCond .ge 21, 3) := by decide +kernel
theorem dX8_lit_76 : decode cX8_lit 76 = .ok (.aload_n 0, 1) := by decide +kernel
theorem dX8_lit_77 : decode cX8_lit 77 = .ok (.iconst 0, 1) := by decide +kernel
theorem dX8_lit_78 : decode cX8_lit 78 = .ok (.putfield 41, 3) := by decide +kernel
theorem dX8_lit_81 : decode cX8_lit 81 = .ok (.aload_n 0, 1) := by decide +kernel
theorem dX8_lit_82 : decode cX8_lit 82 = .ok (.dup, 1) := by decide +kernel
theorem dX8_lit_83 : decode cX8_lit 83 = .ok (.getfield 111, 3) := by decide +kernel
theorem dX8_lit_86 : decode cX8_lit 86 = .ok (.iconst 1, 1) := by decide +kernel
theorem dX8_lit_87 : decode cX8_lit 87 = .ok (.iadd, 1) := by decide +kernel
theorem dX8_lit_88 : decode cX8_lit 88 = .ok (.putfield 111, 3) := by decide +kernel
theorem dX8_lit_91 : decode cX8_lit 91 = .ok (.goto 26, 3) := by decide +kernel
theorem dX8_lit_94 : decode cX8_lit 94 = .ok (.aload_n 0, 1) := by decide +kernel
theorem dX8_lit_95 : decode cX8_lit 95 = .ok (.iload_n 2, 1) := by decide +kernel
theorem dX8_lit_96 : decode cX8_lit 96 = .ok (.i2d, 1) := by decide +kernel
theorem dX8_lit_97 : decode cX8_lit 97 = .ok (.aload_n 0, 1) := by decide +kernel
theorem dX8_lit_98 : decode cX8_lit 98 = .ok (.getfield 20, 3) := by decide +kernel
theorem dX8_lit_101 : decode cX8_lit 101 = .ok (.iload_n 1, 1) := by decide +kernel
theorem dX8_lit_102 : decode cX8_lit 102 = .ok (.i2d, 1) := by decide +kernel
theorem dX8_lit_103 : decode cX8_lit 103 = .ok (.aload_n 0, 1) := by decide +kernel
theorem dX8_lit_104 : decode cX8_lit 104 = .ok (.invokevirtual 107, 3) := by decide +kernel
theorem dX8_lit_107 : decode cX8_lit 107 = .ok (.invokestatic 104, 3) := by decide +kernel
theorem dX8_lit_110 : decode cX8_lit 110 = .ok (.dadd, 1) := by decide +kernel
theorem dX8_lit_111 : decode cX8_lit 111 = .ok (.invokestatic 104, 3) := by decide +kernel
theorem dX8_lit_114 : decode cX8_lit 114 = .ok (.putfield 20, 3) := by decide +kernel
theorem dX8_lit_117 : decode cX8_lit 117 = .ok (.return_, 1) := by decide +kernel
theorem dX8_cone_0 : decode cX8_cone 0 = .ok (.iconst 0, 1) := by decide +kernel
theorem dX8_cone_1 : decode cX8_cone 1 = .ok (.istore_n 2, 1) := by decide +kernel
theorem dX8_cone_2 : decode cX8_cone 2 = .ok (.getstatic 114, 3) := by decide +kernel
theorem dX8_cone_5 : decode cX8_cone 5 = .ok (.astore_n 3, 1) := by decide +kernel
theorem dX8_cone_6 : decode cX8_cone 6 = .ok (.aload_n 3, 1) := by decide +kernel
theorem dX8_cone_7 : decode cX8_cone 7 = .ok (.arraylength, 1) := by decide +kernel
theorem dX8_cone_8 : decode cX8_cone 8 = .ok (.istore 4, 2) := by decide +kernel
theorem dX8_cone_10 : decode cX8_cone 10 = .ok (.iconst 0, 1) := by decide +kernel
theorem dX8_cone_11 : decode cX8_cone 11 = .ok (.istore 5, 2) := by decide +kernel
theorem dX8_cone_13 : decode cX8_cone 13 = .ok (.iload 5, 2) := by decide +kernel
theorem dX8_cone_15 : decode cX8_cone 15 = .ok (.iload 4, 2) := by decide +kernel
theorem dX8_cone_17 : decode cX8_cone 17 = .ok (.if_icmp .ge 39, 3) := by decide +kernel
theorem dX8_cone_20 : decode cX8_cone 20 = .ok (.aload_n 3, 1) := by decide +kernel
theorem dX8_cone_21 : decode cX8_cone 21 = .ok (.iload 5, 2) := by decide +kernel
theorem dX8_cone_23 : decode cX8_cone 23 = .ok (.iaload, 1) := by decide +kernel
theorem dX8_cone_24 : decode cX8_cone 24 = .ok (.istore 6, 2) := by decide +kernel
theorem dX8_cone_26 : decode cX8_cone 26 = .ok (.iload_n 2, 1) := by decide +kernel
theorem dX8_cone_27 : decode cX8_cone 27 = .ok (.aload_n 0, 1) := by decide +kernel
theorem dX8_cone_28 : decode cX8_cone 28 = .ok (.getfield 28, 3) := by decide +kernel
theorem dX8_cone_31 : decode cX8_cone 31 = .ok (.iload_n 1, 1) := by decide +kernel
theorem dX8_cone_32 : decode cX8_cone 32 = .ok (.daload, 1) := by decide +kernel
theorem dX8_cone_33 : decode cX8_cone 33 = .ok (.iload 6, 2) := by decide +kernel
theorem dX8_cone_35 : decode cX8_cone 35 = .ok (.i2d, 1) := by decide +kernel
theorem dX8_cone_36 : decode cX8_cone 36 = .ok (.dcmp .l, 1) := by decide +kernel
theorem dX8_cone_37 : decode cX8_cone 37 = .ok (.ifCond .lt 7, 3) := by decide +kernel
theorem dX8_cone_40 : decode cX8_cone 40 = .ok (.iconst 1, 1) := by decide +kernel
theorem dX8_cone_41 : decode cX8_cone 41 = .ok (.goto 4, 3) := by decide +kernel
theorem dX8_cone_44 : decode cX8_cone 44 = .ok (.iconst 0, 1) := by decide +kernel
theorem dX8_cone_45 : decode cX8_cone 45 = .ok (.invokestatic 117, 3) := by decide +kernel
theorem dX8_cone_48 : decode cX8_cone 48 = .ok (.iadd, 1) := by decide +kernel
theorem dX8_cone_49 : decode cX8_cone 49 = .ok (.istore_n 2, 1) := by decide +kernel
theorem dX8_cone_50 : decode cX8_cone 50 = .ok (.iinc 5 1, 3) := by decide +kernel
theorem dX8_cone_53 : decode cX8_cone 53 = .ok (.goto (-40), 3) := by decide +kernel
theorem dX8_cone_56 : decode cX8_cone 56 = .ok (.iload_n 2, 1) := by decide +kernel
theorem dX8_cone_57 : decode cX8_cone 57 = .ok (.ireturn, 1) := by decide +kernel
theorem dX9_init_0 : decode cX9_init 0 = .ok (.aload_n 0, 1) := by decide +kernel
theorem dX9_init_1 : decode cX9_init 1 = .ok (.invokespecial 3, 3) := by decide +kernel
theorem dX9_init_4 : decode cX9_init 4 = .ok (.aload_n 0, 1) := by decide +kernel
theorem dX9_init_5 : decode cX9_init 5 = .ok (.iconst (-1), 1) := by decide +kernel
theorem dX9_init_6 : decode cX9_init 6 = .ok (.putfield 9, 3) := by decide +kernel
theorem dX9_init_9 : decode cX9_init 9 = .ok (.aload_n 0, 1) := by decide +kernel
theorem dX9_init_10 : decode cX9_init 10 = .ok (.ldc 15, 2) := by decide +kernel
theorem dX9_init_12 : decode cX9_init 12 = .ok (.putfield 16, 3) := by decide +kernel
theorem dX9_init_15 : decode cX9_init 15 = .ok (.aload_n 0, 1) := by decide +kernel
theorem dX9_init_16 : decode cX9_init 16 = .ok (.iconst (-1), 1) := by decide +kernel
theorem dX9_init_17 : decode cX9_init 17 = .ok (.putfield 20, 3) := by decide +kernel
theorem dX9_init_20 : decode cX9_init 20 = .ok (.aload_n 0, 1) := by decide +kernel
theorem dX9_init_21 : decode cX9_init 21 = .ok (.iconst (-1), 1) := by decide +kernel
theorem dX9_init_22 : decode cX9_init 22 = .ok (.putfield 23, 3) := by decide +kernel
theorem dX9_init_25 : decode cX9_init 25 = .ok (.aload_n 0, 1) := by decide +kernel
theorem dX9_init_26 : decode cX9_init 26 = .ok (.iload_n 1, 1) := by decide +kernel
theorem dX9_init_27 : decode cX9_init 27 = .ok (.putfield 26, 3) := by decide +kernel
theorem dX9_init_30 : decode cX9_init 30 = .ok (.aload_n 0, 1) := by decide +kernel
theorem dX9_init_31 : decode cX9_init 31 = .ok (.iload_n 2, 1) := by decide +kernel
theorem dX9_init_32 : decode cX9_init 32 = .ok (.putfield 29, 3) := by decide +kernel
theorem dX9_init_35 : decode cX9_init 35 = .ok (.aload_n 0, 1) := by decide +kernel
theorem dX9_init_36 : decode cX9_init 36 = .ok (.iload_n 3, 1) := by decide +kernel
theorem dX9_init_37 : decode cX9_init 37 = .ok (.putfield 32, 3) := by decide +kernel
theorem dX9_init_40 : decode cX9_init 40 = .ok (.aload_n 0, 1) := by decide +kernel
theorem dX9_init_41 : decode cX9_init 41 = .ok (.iload 4, 2) := by decide +kernel
theorem dX9_init_43 : decode cX9_init 43 = .ok (.putfield 35, 3) := by decide +kernel
theorem dX9_init_46 : decode cX9_init 46 = .ok (.return_, 1) := by decide +kernel
theorem dX9_day_0 : decode cX9_day 0 = .ok (.aload_n 0, 1) := by decide +kernel
theorem dX9_day_1 : decode cX9_day 1 = .ok (.getfield 38, 3) := by decide +kernel
theorem dX9_day_4 : decode cX9_day 4 = .ok (.ifCond .ne 11, 3) := by decide +kernel
theorem dX9_day_7 : decode cX9_day 7 = .ok (.aload_n 0, 1) := by decide +kernel
theorem dX9_day_8 : decode cX9_day 8 = .ok (.getfield 20, 3) := by decide +kernel
theorem dX9_day_11 : decode cX9_day 11 = .ok (.iconst (-1), 1) := by decide +kernel
theorem dX9_day_12 : decode cX9_day 12 = .ok (.if_icmp .eq 4, 3) := by decide +kernel
theorem dX9_day_15 : decode cX9_day 15 = .ok (.return_, 1) := by decide +kernel
theorem dX9_day_16 : decode cX9_day 16 = .ok (.iload_n 1, 1) := by decide +kernel
theorem dX9_day_17 : decode cX9_day 17 = .ok (.i2f, 1) := by decide +kernel
theorem dX9_day_18 : decode cX9_day 18 = .ok (.fconst 2, 1) := by decide +kernel
theorem dX9_day_19 : decode cX9_day 19 = .ok (.fdiv, 1) := by decide +kernel
theorem dX9_day_20 : decode cX9_day 20 = .ok (.aload_n 0, 1) := by decide +kernel
theorem dX9_day_21 : decode cX9_day 21 = .ok (.getfield 35, 3) := by decide +kernel
theorem dX9_day_24 : decode cX9_day 24 = .ok (.i2f, 1) := by decide +kernel
theorem dX9_day_25 : decode cX9_day 25 = .ok (.fdiv, 1) := by decide +kernel
theorem dX9_day_26 : decode cX9_day 26 = .ok (.fstore_n 2, 1) := by decide +kernel
theorem dX9_day_27 : decode cX9_day 27 = .ok (.aload_n 0, 1) := by decide +kernel
theorem dX9_day_28 : decode cX9_day 28 = .ok (.getfield 41, 3) := by decide +kernel
theorem dX9_day_31 : decode cX9_day 31 = .ok (.ifCond .eq 8, 3) := by decide +kernel
theorem dX9_day_34 : decode cX9_day 34 = .ok (.fload_n 2, 1) := by decide +kernel
theorem dX9_day_35 : decode cX9_day 35 = .ok (.ldc 45, 2) := by decide +kernel
theorem dX9_day_37 : decode cX9_day 37 = .ok (.fmul, 1) := by decide +kernel
theorem dX9_day_38 : decode cX9_day 38 = .ok (.fstore_n 2, 1) := by decide +kernel
theorem dX9_day_39 : decode cX9_day 39 = .ok (.aload_n 0, 1) := by decide +kernel
theorem dX9_day_40 : decode cX9_day 40 = .ok (.getfield 16, 3) := by decide +kernel
theorem dX9_day_43 : decode cX9_day 43 = .ok (.fload_n 2, 1) := by decide +kernel
theorem dX9_day_44 : decode cX9_day 44 = .ok (.invokestatic 46, 3) := by decide +kernel
theorem dX9_day_47 : decode cX9_day 47 = .ok (.fstore_n 2, 1) := by decide +kernel
theorem dX9_day_48 : decode cX9_day 48 = .ok (.aload_n 0, 1) := by decide +kernel
theorem dX9_day_49 : decode cX9_day 49 = .ok (.dup, 1) := by decide +kernel
theorem dX9_day_50 : decode cX9_day 50 = .ok (.getfield 16, 3) := by decide +kernel
theorem dX9_day_53 : decode cX9_day 53 = .ok (.fload_n 2, 1) := by decide +kernel
theorem dX9_day_54 : decode cX9_day 54 = .ok (.fsub, 1) := by decide +kernel
theorem dX9_day_55 : decode cX9_day 55 = .ok (.putfield 16, 3) := by decide +kernel
theorem dX9_day_58 : decode cX9_day 58 = .ok (.fload_n 2, 1) := by decide +kernel
theorem dX9_day_59 : decode cX9_day 59 = .ok (.ldc 52, 2) := by decide +kernel
theorem dX9_day_61 : decode cX9_day 61 = .ok (.fcmp .l, 1) := by decide +kernel
theorem dX9_day_62 : decode cX9_day 62 = .ok (.ifCond .le 13, 3) := by decide +kernel
theorem dX9_day_65 : decode cX9_day 65 = .ok (.aload_n 0, 1) := by decide +kernel
theorem dX9_day_66 : decode cX9_day 66 = .ok (.dup, 1) := by decide +kernel
theorem dX9_day_67 : decode cX9_day 67 = .ok (.getfield 53, 3) := by decide +kernel
theorem dX9_day_70 : decode cX9_day 70 = .ok (.iconst 2, 1) := by decide +kernel
theorem dX9_day_71 : decode cX9_day 71 = .ok (.ior, 1) := by decide +kernel
theorem dX9_day_72 : decode cX9_day 72 = .ok (.putfield 53, 3) := by decide +kernel
theorem dX9_day_75 : decode cX9_day 75 = .ok (.aload_n 0, 1) := by decide +kernel
theorem dX9_day_76 : decode cX9_day 76 = .ok (.getfield 16, 3) := by decide +kernel
theorem dX9_day_79 : decode cX9_day 79 = .ok (.ldc 56, 2) := by decide +kernel
theorem dX9_day_81 : decode cX9_day 81 = .ok (.fcmp .g, 1) := by decide +kernel
theorem dX9_day_82 : decode cX9_day 82 = .ok (.ifCond .gt 8, 3) := by decide +kernel
theorem dX9_day_85 : decode cX9_day 85 = .ok (.aload_n 0, 1) := by decide +kernel
theorem dX9_day_86 : decode cX9_day 86 = .ok (.iconst 1, 1) := by decide +kernel
theorem dX9_day_87 : decode cX9_day 87 = .ok (.putfield 38, 3) := by decide +kernel
theorem dX9_day_90 : decode cX9_day 90 = .ok (.return_, 1) := by decide +kernel
theorem dX9_fail_0 : decode cX9_fail 0 = .ok (.aload_n 0, 1) := by decide +kernel
theorem dX9_fail_1 : decode cX9_fail 1 = .ok (.dup, 1) := by decide +kernel
theorem dX9_fail_2 : decode cX9_fail 2 = .ok (.getfield 53, 3) := by decide +kernel
theorem dX9_fail_5 : decode cX9_fail 5 = .ok (.iload_n 1, 1) := by decide +kernel
theorem dX9_fail_6 : decode cX9_fail 6 = .ok (.ior, 1) := by decide +kernel
theorem dX9_fail_7 : decode cX9_fail 7 = .ok (.putfield 53, 3) := by decide +kernel
theorem dX9_fail_10 : decode cX9_fail 10 = .ok (.aload_n 0, 1) := by decide +kernel
theorem dX9_fail_11 : decode cX9_fail 11 = .ok (.iconst 5, 1) := by decide +kernel
theorem dX9_fail_12 : decode cX9_fail 12 = .ok (.putfield 38, 3) := by decide +kernel
theorem dX9_fail_15 : decode cX9_fail 15 = .ok (.return_, 1) := by decide +kernel
theorem dX9_burn_0 : decode cX9_burn 0 = .ok (.aload_n 0, 1) := by decide +kernel
theorem dX9_burn_1 : decode cX9_burn 1 = .ok (.getfield 38, 3) := by decide +kernel
theorem dX9_burn_4 : decode cX9_burn 4 = .ok (.iconst 5, 1) := by decide +kernel
theorem dX9_burn_5 : decode cX9_burn 5 = .ok (.if_icmp .ne 4, 3) := by decide +kernel
theorem dX9_burn_8 : decode cX9_burn 8 = .ok (.return_, 1) := by decide +kernel
theorem dX9_burn_9 : decode cX9_burn 9 = .ok (.aload_n 0, 1) := by decide +kernel
theorem dX9_burn_10 : decode cX9_burn 10 = .ok (.getfield 38, 3) := by decide +kernel
theorem dX9_burn_13 : decode cX9_burn 13 = .ok (.ifCond .ne 17, 3) := by decide +kernel
theorem dX9_burn_16 : decode cX9_burn 16 = .ok (.dload_n 3, 1) := by decide +kernel
theorem dX9_burn_17 : decode cX9_burn 17 = .ok (.ldc2_w 57, 3) := by decide +kernel
theorem dX9_burn_20 : decode cX9_burn 20 = .ok (.dcmp .l, 1) := by decide +kernel
theorem dX9_burn_21 : decode cX9_burn 21 = .ok (.ifCond .le 9, 3) := by decide +kernel
theorem dX9_burn_24 : decode cX9_burn 24 = .ok (.aload_n 0, 1) := by decide +kernel
theorem dX9_burn_25 : decode cX9_burn 25 = .ok (.iconst 1, 1) := by decide +kernel
theorem dX9_burn_26 : decode cX9_burn 26 = .ok (.invokevirtual 59, 3) := by decide +kernel
theorem dX9_burn_29 : decode cX9_burn 29 = .ok (.return_, 1) := by decide +kernel
theorem dX9_burn_30 : decode cX9_burn 30 = .ok (.dload_n 1, 1) := by decide +kernel
theorem dX9_burn_31 : decode cX9_burn 31 = .ok (.ldc2_w 63, 3) := by decide +kernel
theorem dX9_burn_34 : decode cX9_burn 34 = .ok (.dcmp .g, 1) := by decide +kernel
theorem dX9_burn_35 : decode cX9_burn 35 = .ok (.ifCond .ge 11, 3) := by decide +kernel
theorem dX9_burn_38 : decode cX9_burn 38 = .ok (.dload_n 3, 1) := by decide +kernel
theorem dX9_burn_39 : decode cX9_burn 39 = .ok (.ldc2_w 63, 3) := by decide +kernel
theorem dX9_burn_42 : decode cX9_burn 42 = .ok (.dcmp .l, 1) := by decide +kernel
theorem dX9_burn_43 : decode cX9_burn 43 = .ok (.ifCond .ge 19, 3) := by decide +kernel
theorem dX9_burn_46 : decode cX9_burn 46 = .ok (.dload_n 1, 1) := by decide +kernel
theorem dX9_burn_47 : decode cX9_burn 47 = .ok (.ldc2_w 63, 3) := by decide +kernel
theorem dX9_burn_50 : decode cX9_burn 50 = .ok (.dcmp .l, 1) := by decide +kernel
theorem dX9_burn_51 : decode cX9_burn 51 = .ok (.ifCond .le 15, 3) := by decide +kernel
theorem dX9_burn_54 : decode cX9_burn 54 = .ok (.dload_n 3, 1) := by decide +kernel
theorem dX9_burn_55 : decode cX9_burn 55 = .ok (.ldc2_w 63, 3) := by decide +kernel
theorem dX9_burn_58 : decode cX9_burn 58 = .ok (.dcmp .g, 1) := by decide +kernel
theorem dX9_burn_59 : decode cX9_burn 59 = .ok (.ifCond .gt 7, 3) := by decide +kernel
theorem dX9_burn_62 : decode cX9_burn 62 = .ok (.iconst 1, 1) := by decide +kernel
theorem dX9_burn_63 : decode cX9_burn 63 = .ok (.goto 4, 3) := by decide +kernel
theorem dX9_burn_66 : decode cX9_burn 66 = .ok (.iconst 0, 1) := by decide +kernel
theorem dX9_burn_67 : decode cX9_burn 67 = .ok (.istore 6, 2) := by decide +kernel
theorem dX9_burn_69 : decode cX9_burn 69 = .ok (.iload 6, 2) := by decide +kernel
theorem dX9_burn_71 : decode cX9_burn 71 = .ok (.ifCond .eq 32, 3) := by decide +kernel
theorem dX9_burn_74 : decode cX9_burn 74 = .ok (.dload_n 3, 1) := by decide +kernel
theorem dX9_burn_75 : decode cX9_burn 75 = .ok (.dload_n 1, 1) := by decide +kernel
theorem dX9_burn_76 : decode cX9_burn 76 = .ok (.dsub, 1) := by decide +kernel
theorem dX9_burn_77 : decode cX9_burn 77 = .ok (.invokestatic 65, 3) := by decide +kernel
theorem dX9_burn_80 : decode cX9_burn 80 = .ok (.ldc2_w 69, 3) := by decide +kernel
theorem dX9_burn_83 : decode cX9_burn 83 = .ok (.aload_n 0, 1) := by decide +kernel
theorem dX9_burn_84 : decode cX9_burn 84 = .ok (.getfield 35, 3) := by decide +kernel
theorem dX9_burn_87 : decode cX9_burn 87 = .ok (.i2d, 1) := by decide +kernel
theorem dX9_burn_88 : decode cX9_burn 88 = .ok (.ddiv, 1) := by decide +kernel
theorem dX9_burn_89 : decode cX9_burn 89 = .ok (.dcmp .l, 1) := by decide +kernel
theorem dX9_burn_90 : decode cX9_burn 90 = .ok (.ifCond .le 13, 3) := by decide +kernel
theorem dX9_burn_93 : decode cX9_burn 93 = .ok (.aload_n 0, 1) := by decide +kernel
theorem dX9_burn_94 : decode cX9_burn 94 = .ok (.dup, 1) := by decide +kernel
theorem dX9_burn_95 : decode cX9_burn 95 = .ok (.getfield 53, 3) := by decide +kernel
theorem dX9_burn_98 : decode cX9_burn 98 = .ok (.iconst 2, 1) := by decide +kernel
theorem dX9_burn_99 : decode cX9_burn 99 = .ok (.ior, 1) := by decide +kernel
theorem dX9_burn_100 : decode cX9_burn 100 = .ok (.putfield 53, 3) := by decide +kernel
theorem dX9_burn_103 : decode cX9_burn 103 = .ok (.iload 5, 2) := by decide +kernel
theorem dX9_burn_105 : decode cX9_burn 105 = .ok (.iconst 3, 1) := by decide +kernel
theorem dX9_burn_106 : decode cX9_burn 106 = .ok (.if_icmp .lt 21, 3) := by decide +kernel
theorem dX9_burn_109 : decode cX9_burn 109 = .ok (.dload_n 3, 1) := by decide +kernel
theorem dX9_burn_110 : decode cX9_burn 110 = .ok (.ldc2_w 71, 3) := by decide +kernel
theorem dX9_burn_113 : decode cX9_burn 113 = .ok (.dcmp .l, 1) := by decide +kernel
theorem dX9_burn_114 : decode cX9_burn 114 = .ok (.ifCond .lt 13, 3) := by decide +kernel
theorem dX9_burn_117 : decode cX9_burn 117 = .ok (.aload_n 0, 1) := by decide +kernel
theorem dX9_burn_118 : decode cX9_burn 118 = .ok (.dup, 1) := by decide +kernel
theorem dX9_burn_119 : decode cX9_burn 119 = .ok (.getfield 73, 3) := by decide +kernel
theorem dX9_burn_122 : decode cX9_burn 122 = .ok (.iconst 1, 1) := by decide +kernel
theorem dX9_burn_123 : decode cX9_burn 123 = .ok (.iadd, 1) := by decide +kernel
theorem dX9_burn_124 : decode cX9_burn 124 = .ok (.putfield 73, 3) := by decide +kernel
theorem dX9_burn_127 : decode cX9_burn 127 = .ok (.return_, 1) := by decide +kernel
theorem dX10_isIn_0 : decode cX10_isIn 0 = .ok (.iload_n 0, 1) := by decide +kernel
theorem dX10_isIn_1 : decode cX10_isIn 1 = .ok (.iload_n 1, 1) := by decide +kernel
theorem dX10_isIn_2 : decode cX10_isIn 2 = .ok (.if_icmp .lt 12, 3) := by decide +kernel
theorem dX10_isIn_5 : decode cX10_isIn 5 = .ok (.iload_n 0, 1) := by decide +kernel
theorem dX10_isIn_6 : decode cX10_isIn 6 = .ok (.iload_n 2, 1) := by decide +kernel
theorem dX10_isIn_7 : decode cX10_isIn 7 = .ok (.if_icmp .gt 7, 3) := by decide +kernel
theorem dX10_isIn_10 : decode cX10_isIn 10 = .ok (.iconst 1, 1) := by decide +kernel
theorem dX10_isIn_11 : decode cX10_isIn 11 = .ok (.goto 4, 3) := by decide +kernel
theorem dX10_isIn_14 : decode cX10_isIn 14 = .ok (.iconst 0, 1) := by decide +kernel
theorem dX10_isIn_15 : decode cX10_isIn 15 = .ok (.ireturn, 1) := by decide +kernel
theorem dX10_one_0 : decode cX10_one 0 = .ok (.iload_n 0, 1) := by decide +kernel
theorem dX10_one_1 : decode cX10_one 1 = .ok (.ifCond .eq 7, 3) := by decide +kernel
theorem dX10_one_4 : decode cX10_one 4 = .ok (.iconst 1, 1) := by decide +kernel
theorem dX10_one_5 : decode cX10_one 5 = .ok (.goto 4, 3) := by decide +kernel
theorem dX10_one_8 : decode cX10_one 8 = .ok (.iconst 0, 1) := by decide +kernel
theorem dX10_one_9 : decode cX10_one 9 = .ok (.ireturn, 1) := by decide +kernel
theorem dX10_init_0 : decode cX10_init 0 = .ok (.aload_n 0, 1) := by decide +kernel
theorem dX10_init_1 : decode cX10_init 1 = .ok (.invokespecial 1, 3) := by decide +kernel
theorem dX10_init_4 : decode cX10_init 4 = .ok (.aload_n 0, 1) := by decide +kernel
theorem dX10_init_5 : decode cX10_init 5 = .ok (.new 7, 3) := by decide +kernel
theorem dX10_init_8 : decode cX10_init 8 = .ok (.dup, 1) := by decide +kernel
theorem dX10_init_9 : decode cX10_init 9 = .ok (.invokespecial 9, 3) := by decide +kernel
theorem dX10_init_12 : decode cX10_init 12 = .ok (.putfield 10, 3) := by decide +kernel
theorem dX10_init_15 : decode cX10_init 15 = .ok (.aload_n 0, 1) := by decide +kernel
theorem dX10_init_16 : decode cX10_init 16 = .ok (.new 7, 3) := by decide +kernel
theorem dX10_init_19 : decode cX10_init 19 = .ok (.dup, 1) := by decide +kernel
theorem dX10_init_20 : decode cX10_init 20 = .ok (.invokespecial 9, 3) := by decide +kernel
theorem dX10_init_23 : decode cX10_init 23 = .ok (.putfield 16, 3) := by decide +kernel
theorem dX10_init_26 : decode cX10_init 26 = .ok (.aload_n 0, 1) := by decide +kernel
theorem dX10_init_27 : decode cX10_init 27 = .ok (.new 7, 3) := by decide +kernel
theorem dX10_init_30 : decode cX10_init 30 = .ok (.dup, 1) := by decide +kernel
theorem dX10_init_31 : decode cX10_init 31 = .ok (.invokespecial 9, 3) := by decide +kernel
theorem dX10_init_34 : decode cX10_init 34 = .ok (.putfield 19, 3) := by decide +kernel
theorem dX10_init_37 : decode cX10_init 37 = .ok (.aload_n 0, 1) := by decide +kernel
theorem dX10_init_38 : decode cX10_init 38 = .ok (.new 7, 3) := by decide +kernel
theorem dX10_init_41 : decode cX10_init 41 = .ok (.dup, 1) := by decide +kernel
theorem dX10_init_42 : decode cX10_init 42 = .ok (.invokespecial 9, 3) := by decide +kernel
theorem dX10_init_45 : decode cX10_init 45 = .ok (.putfield 22, 3) := by decide +kernel
theorem dX10_init_48 : decode cX10_init 48 = .ok (.aload_n 0, 1) := by decide +kernel
theorem dX10_init_49 : decode cX10_init 49 = .ok (.new 25, 3) := by decide +kernel
theorem dX10_init_52 : decode cX10_init 52 = .ok (.dup, 1) := by decide +kernel
theorem dX10_init_53 : decode cX10_init 53 = .ok (.invokespecial 27, 3) := by decide +kernel
theorem dX10_init_56 : decode cX10_init 56 = .ok (.putfield 28, 3) := by decide +kernel
theorem dX10_init_59 : decode cX10_init 59 = .ok (.return_, 1) := by decide +kernel
theorem dX10_thrown_0 : decode cX10_thrown 0 = .ok (.aload_n 0, 1) := by decide +kernel
theorem dX10_thrown_1 : decode cX10_thrown 1 = .ok (.getfield 32, 3) := by decide +kernel
theorem dX10_thrown_4 : decode cX10_thrown 4 = .ok (.ireturn, 1) := by decide +kernel
theorem dX10_refuse_0 : decode cX10_refuse 0 = .ok (.iload_n 1, 1) := by decide +kernel
theorem dX10_refuse_1 : decode cX10_refuse 1 = .ok (.ifCond .eq 15, 3) := by decide +kernel
theorem dX10_refuse_4 : decode cX10_refuse 4 = .ok (.aload_n 0, 1) := by decide +kernel
theorem dX10_refuse_5 : decode cX10_refuse 5 = .ok (.getfield 32, 3) := by decide +kernel
theorem dX10_refuse_8 : decode cX10_refuse 8 = .ok (.ifCond .ne 8, 3) := by decide +kernel
theorem dX10_refuse_11 : decode cX10_refuse 11 = .ok (.aload_n 0, 1) := by decide +kernel
theorem dX10_refuse_12 : decode cX10_refuse 12 = .ok (.iload_n 2, 1) := by decide +kernel
theorem dX10_refuse_13 : decode cX10_refuse 13 = .ok (.putfield 32, 3) := by decide +kernel
theorem dX10_refuse_16 : decode cX10_refuse 16 = .ok (.aload_n 0, 1) := by decide +kernel
theorem dX10_refuse_17 : decode cX10_refuse 17 = .ok (.getfield 32, 3) := by decide +kernel
theorem dX10_refuse_20 : decode cX10_refuse 20 = .ok (.ifCond .le 7, 3) := by decide +kernel
theorem dX10_refuse_23 : decode cX10_refuse 23 = .ok (.iconst 1, 1) := by decide +kernel
theorem dX10_refuse_24 : decode cX10_refuse 24 = .ok (.goto 4, 3) := by decide +kernel
theorem dX10_refuse_27 : decode cX10_refuse 27 = .ok (.iconst 0, 1) := by decide +kernel
theorem dX10_refuse_28 : decode cX10_refuse 28 = .ok (.ireturn, 1) := by decide +kernel
theorem dX10_start_0 : decode cX10_start 0 = .ok (.aload_n 0, 1) := by decide +kernel
theorem dX10_start_1 : decode cX10_start 1 = .ok (.iconst 0, 1) := by decide +kernel
theorem dX10_start_2 : decode cX10_start 2 = .ok (.putfield 32, 3) := by decide +kernel
theorem dX10_start_5 : decode cX10_start 5 = .ok (.aload_n 0, 1) := by decide +kernel
theorem dX10_start_6 : decode cX10_start 6 = .ok (.iload_n 1, 1) := by decide +kernel
theorem dX10_start_7 : decode cX10_start 7 = .ok (.iload_n 2, 1) := by decide +kernel
theorem dX10_start_8 : decode cX10_start 8 = .ok (.invokevirtual 36, 3) := by decide +kernel
theorem dX10_start_11 : decode cX10_start 11 = .ok (.ireturn, 1) := by decide +kernel
theorem dX10_isNoClay_0 : decode cX10_isNoClay 0 = .ok (.iload_n 1, 1) := by decide +kernel
theorem dX10_isNoClay_1 : decode cX10_isNoClay 1 = .ok (.iconst 0, 1) := by decide +kernel
theorem dX10_isNoClay_2 : decode cX10_isNoClay 2 = .ok (.aload_n 0, 1) := by decide +kernel
theorem dX10_isNoClay_3 : decode cX10_isNoClay 3 = .ok (.getfield 10, 3) := by decide +kernel
theorem dX10_isNoClay_6 : decode cX10_isNoClay 6 = .ok (.invokevirtual 40, 3) := by decide +kernel
theorem dX10_isNoClay_9 : decode cX10_isNoClay 9 = .ok (.iconst 1, 1) := by decide +kernel
theorem dX10_isNoClay_10 : decode cX10_isNoClay 10 = .ok (.isub, 1) := by decide +kernel
theorem dX10_isNoClay_11 : decode cX10_isNoClay 11 = .ok (.invokestatic 44, 3) := by decide +kernel
theorem dX10_isNoClay_14 : decode cX10_isNoClay 14 = .ok (.ifCond .ne 7, 3) := by decide +kernel
theorem dX10_isNoClay_17 : decode cX10_isNoClay 17 = .ok (.iconst 1, 1) := by decide +kernel
theorem dX10_isNoClay_18 : decode cX10_isNoClay 18 = .ok (.goto 4, 3) := by decide +kernel
theorem dX10_isNoClay_21 : decode cX10_isNoClay 21 = .ok (.iconst 0, 1) := by decide +kernel
theorem dX10_isNoClay_22 : decode cX10_isNoClay 22 = .ok (.ireturn, 1) := by decide +kernel
theorem dX10_isNoGlaze_0 : decode cX10_isNoGlaze 0 = .ok (.iload_n 1, 1) := by decide +kernel
theorem dX10_isNoGlaze_1 : decode cX10_isNoGlaze 1 = .ok (.iconst 0, 1) := by decide +kernel
theorem dX10_isNoGlaze_2 : decode cX10_isNoGlaze 2 = .ok (.aload_n 0, 1) := by decide +kernel
theorem dX10_isNoGlaze_3 : decode cX10_isNoGlaze 3 = .ok (.getfield 16, 3) := by decide +kernel
theorem dX10_isNoGlaze_6 : decode cX10_isNoGlaze 6 = .ok (.invokevirtual 40, 3) := by decide +kernel
theorem dX10_isNoGlaze_9 : decode cX10_isNoGlaze 9 = .ok (.iconst 1, 1) := by decide +kernel
theorem dX10_isNoGlaze_10 : decode cX10_isNoGlaze 10 = .ok (.isub, 1) := by decide +kernel
theorem dX10_isNoGlaze_11 : decode cX10_isNoGlaze 11 = .ok (.invokestatic 44, 3) := by decide +kernel
theorem dX10_isNoGlaze_14 : decode cX10_isNoGlaze 14 = .ok (.ifCond .ne 7, 3) := by decide +kernel
theorem dX10_isNoGlaze_17 : decode cX10_isNoGlaze 17 = .ok (.iconst 1, 1) := by decide +kernel
theorem dX10_isNoGlaze_18 : decode cX10_isNoGlaze 18 = .ok (.goto 4, 3) := by decide +kernel
theorem dX10_isNoGlaze_21 : decode cX10_isNoGlaze 21 = .ok (.iconst 0, 1) := by decide +kernel
theorem dX10_isNoGlaze_22 : decode cX10_isNoGlaze 22 = .ok (.ireturn, 1) := by decide +kernel
theorem dX10_isNoPot_0 : decode cX10_isNoPot 0 = .ok (.iload_n 1, 1) := by decide +kernel
theorem dX10_isNoPot_1 : decode cX10_isNoPot 1 = .ok (.iconst 0, 1) := by decide +kernel
theorem dX10_isNoPot_2 : decode cX10_isNoPot 2 = .ok (.aload_n 0, 1) := by decide +kernel
theorem dX10_isNoPot_3 : decode cX10_isNoPot 3 = .ok (.getfield 19, 3) := by decide +kernel
theorem dX10_isNoPot_6 : decode cX10_isNoPot 6 = .ok (.invokevirtual 40, 3) := by decide +kernel
theorem dX10_isNoPot_9 : decode cX10_isNoPot 9 = .ok (.iconst 1, 1) := by decide +kernel
theorem dX10_isNoPot_10 : decode cX10_isNoPot 10 = .ok (.isub, 1) := by decide +kernel
theorem dX10_isNoPot_11 : decode cX10_isNoPot 11 = .ok (.invokestatic 44, 3) := by decide +kernel
theorem dX10_isNoPot_14 : decode cX10_isNoPot 14 = .ok (.ifCond .ne 7, 3) := by decide +kernel
theorem dX10_isNoPot_17 : decode cX10_isNoPot 17 = .ok (.iconst 1, 1) := by decide +kernel
theorem dX10_isNoPot_18 : decode cX10_isNoPot 18 = .ok (.goto 4, 3) := by decide +kernel
theorem dX10_isNoPot_21 : decode cX10_isNoPot 21 = .ok (.iconst 0, 1) := by decide +kernel
theorem dX10_isNoPot_22 : decode cX10_isNoPot 22 = .ok (.ireturn, 1) := by decide +kernel
theorem dX10_isNoShelf_0 : decode cX10_isNoShelf 0 = .ok (.iload_n 0, 1) := by decide +kernel
theorem dX10_isNoShelf_1 : decode cX10_isNoShelf 1 = .ok (.iconst 0, 1) := by decide +kernel
theorem dX10_isNoShelf_2 : decode cX10_isNoShelf 2 = .ok (.iconst 2, 1) := by decide +kernel
theorem dX10_isNoShelf_3 : decode cX10_isNoShelf 3 = .ok (.invokestatic 44, 3) := by decide +kernel
theorem dX10_isNoShelf_6 : decode cX10_isNoShelf 6 = .ok (.ifCond .ne 7, 3) := by decide +kernel
theorem dX10_isNoShelf_9 : decode cX10_isNoShelf 9 = .ok (.iconst 1, 1) := by decide +kernel
theorem dX10_isNoShelf_10 : decode cX10_isNoShelf 10 = .ok (.goto 4, 3) := by decide +kernel
theorem dX10_isNoShelf_13 : decode cX10_isNoShelf 13 = .ok (.iconst 0, 1) := by decide +kernel
theorem dX10_isNoShelf_14 : decode cX10_isNoShelf 14 = .ok (.ireturn, 1) := by decide +kernel
theorem dX10_isHot_0 : decode cX10_isHot 0 = .ok (.aload_n 0, 1) := by decide +kernel
theorem dX10_isHot_1 : decode cX10_isHot 1 = .ok (.getfield 28, 3) := by decide +kernel
theorem dX10_isHot_4 : decode cX10_isHot 4 = .ok (.getfield 48, 3) := by decide +kernel
theorem dX10_isHot_7 : decode cX10_isHot 7 = .ok (.ifCond .ne 17, 3) := by decide +kernel
theorem dX10_isHot_10 : decode cX10_isHot 10 = .ok (.aload_n 0, 1) := by decide +kernel
theorem dX10_isHot_11 : decode cX10_isHot 11 = .ok (.getfield 28, 3) := by decide +kernel
theorem dX10_isHot_14 : decode cX10_isHot 14 = .ok (.getfield 52, 3) := by decide +kernel
theorem dX10_isHot_17 : decode cX10_isHot 17 = .ok (.ldc2_w 56, 3) := by decide +kernel
theorem dX10_isHot_20 : decode cX10_isHot 20 = .ok (.dcmp .l, 1) := by decide +kernel
theorem dX10_isHot_21 : decode cX10_isHot 21 = .ok (.ifCond .lt 7, 3) := by decide +kernel
theorem dX10_isHot_24 : decode cX10_isHot 24 = .ok (.iconst 1, 1) := by decide +kernel
theorem dX10_isHot_25 : decode cX10_isHot 25 = .ok (.goto 4, 3) := by decide +kernel
theorem dX10_isHot_28 : decode cX10_isHot 28 = .ok (.iconst 0, 1) := by decide +kernel
theorem dX10_isHot_29 : decode cX10_isHot 29 = .ok (.ireturn, 1) := by decide +kernel
theorem dX10_melts_0 : decode cX10_melts 0 = .ok (.aload_n 0, 1) := by decide +kernel
theorem dX10_melts_1 : decode cX10_melts 1 = .ok (.getfield 16, 3) := by decide +kernel
theorem dX10_melts_4 : decode cX10_melts 4 = .ok (.iload_n 1, 1) := by decide +kernel
theorem dX10_melts_5 : decode cX10_melts 5 = .ok (.invokevirtual 58, 3) := by decide +kernel
theorem dX10_melts_8 : decode cX10_melts 8 = .ok (.checkcast 62, 3) := by decide +kernel
theorem dX10_melts_11 : decode cX10_melts 11 = .ok (.astore_n 2, 1) := by decide +kernel
theorem dX10_melts_12 : decode cX10_melts 12 = .ok (.aload_n 2, 1) := by decide +kernel
theorem dX10_melts_13 : decode cX10_melts 13 = .ok (.iconst 0, 1) := by decide +kernel
theorem dX10_melts_14 : decode cX10_melts 14 = .ok (.iaload, 1) := by decide +kernel
theorem dX10_melts_15 : decode cX10_melts 15 = .ok (.aload_n 2, 1) := by decide +kernel
theorem dX10_melts_16 : decode cX10_melts 16 = .ok (.iconst 1, 1) := by decide +kernel
theorem dX10_melts_17 : decode cX10_melts 17 = .ok (.iaload, 1) := by decide +kernel
theorem dX10_melts_18 : decode cX10_melts 18 = .ok (.iadd, 1) := by decide +kernel
theorem dX10_melts_19 : decode cX10_melts 19 = .ok (.i2d, 1) := by decide +kernel
theorem dX10_melts_20 : decode cX10_melts 20 = .ok (.dstore_n 3, 1) := by decide +kernel
theorem dX10_melts_21 : decode cX10_melts 21 = .ok (.ldc2_w 64, 3) := by decide +kernel
theorem dX10_melts_24 : decode cX10_melts 24 = .ok (.ldc2_w 66, 3) := by decide +kernel
theorem dX10_melts_27 : decode cX10_melts 27 = .ok (.aload_n 2, 1) := by decide +kernel
theorem dX10_melts_28 : decode cX10_melts 28 = .ok (.iconst 2, 1) := by decide +kernel
theorem dX10_melts_29 : decode cX10_melts 29 = .ok (.iaload, 1) := by decide +kernel
theorem dX10_melts_30 : decode cX10_melts 30 = .ok (.i2d, 1) := by decide +kernel
theorem dX10_melts_31 : decode cX10_melts 31 = .ok (.dload_n 3, 1) := by decide +kernel
theorem dX10_melts_32 : decode cX10_melts 32 = .ok (.ddiv, 1) := by decide +kernel
theorem dX10_melts_33 : decode cX10_melts 33 = .ok (.dmul, 1) := by decide +kernel
theorem dX10_melts_34 : decode cX10_melts 34 = .ok (.ldc2_w 68, 3) := by decide +kernel
theorem dX10_melts_37 : decode cX10_melts 37 = .ok (.aload_n 2, 1) := by decide +kernel
theorem dX10_melts_38 : decode cX10_melts 38 = .ok (.iconst 3, 1) := by decide +kernel
theorem dX10_melts_39 : decode cX10_melts 39 = .ok (.iaload, 1) := by decide +kernel
theorem dX10_melts_40 : decode cX10_melts 40 = .ok (.i2d, 1) := by decide +kernel
theorem dX10_melts_41 : decode cX10_melts 41 = .ok (.dload_n 3, 1) := by decide +kernel
theorem dX10_melts_42 : decode cX10_melts 42 = .ok (.ddiv, 1) := by decide +kernel
theorem dX10_melts_43 : decode cX10_melts 43 = .ok (.dmul, 1) := by decide +kernel
theorem dX10_melts_44 : decode cX10_melts 44 = .ok (.dadd, 1) := by decide +kernel
theorem dX10_melts_45 : decode cX10_melts 45 = .ok (.invokestatic 70, 3) := by decide +kernel
theorem dX10_melts_48 : decode cX10_melts 48 = .ok (.invokestatic 76, 3) := by decide +kernel
theorem dX10_melts_51 : decode cX10_melts 51 = .ok (.d2i, 1) := by decide +kernel
theorem dX10_melts_52 : decode cX10_melts 52 = .ok (.ireturn, 1) := by decide +kernel
theorem dX10_growth_0 : decode cX10_growth 0 = .ok (.aload_n 0, 1) := by decide +kernel
theorem dX10_growth_1 : decode cX10_growth 1 = .ok (.getfield 16, 3) := by decide +kernel
theorem dX10_growth_4 : decode cX10_growth 4 = .ok (.iload_n 1, 1) := by decide +kernel
theorem dX10_growth_5 : decode cX10_growth 5 = .ok (.invokevirtual 58, 3) := by decide +kernel
theorem dX10_growth_8 : decode cX10_growth 8 = .ok (.checkcast 62, 3) := by decide +kernel
theorem dX10_growth_11 : decode cX10_growth 11 = .ok (.astore_n 2, 1) := by decide +kernel
theorem dX10_growth_12 : decode cX10_growth 12 = .ok (.ldc2_w 80, 3) := by decide +kernel
theorem dX10_growth_15 : decode cX10_growth 15 = .ok (.aload_n 2, 1) := by decide +kernel
theorem dX10_growth_16 : decode cX10_growth 16 = .ok (.iconst 0, 1) := by decide +kernel
theorem dX10_growth_17 : decode cX10_growth 17 = .ok (.iaload, 1) := by decide +kernel
theorem dX10_growth_18 : decode cX10_growth 18 = .ok (.i2d, 1) := by decide +kernel
theorem dX10_growth_19 : decode cX10_growth 19 = .ok (.dmul, 1) := by decide +kernel
theorem dX10_growth_20 : decode cX10_growth 20 = .ok (.ldc2_w 82, 3) := by decide +kernel
theorem dX10_growth_23 : decode cX10_growth 23 = .ok (.aload_n 2, 1) := by decide +kernel
theorem dX10_growth_24 : decode cX10_growth 24 = .ok (.iconst 1, 1) := by decide +kernel
theorem dX10_growth_25 : decode cX10_growth 25 = .ok (.iaload, 1) := by decide +kernel
theorem dX10_growth_26 : decode cX10_growth 26 = .ok (.i2d, 1) := by decide +kernel
theorem dX10_growth_27 : decode cX10_growth 27 = .ok (.dmul, 1) := by decide +kernel
theorem dX10_growth_28 : decode cX10_growth 28 = .ok (.dadd, 1) := by decide +kernel
theorem dX10_growth_29 : decode cX10_growth 29 = .ok (.ldc2_w 84, 3) := by decide +kernel
theorem dX10_growth_32 : decode cX10_growth 32 = .ok (.aload_n 2, 1) := by decide +kernel
theorem dX10_growth_33 : decode cX10_growth 33 = .ok (.iconst 2, 1) := by decide +kernel
theorem dX10_growth_34 : decode cX10_growth 34 = .ok (.iaload, 1) := by decide +kernel
theorem dX10_growth_35 : decode cX10_growth 35 = .ok (.i2d, 1) := by decide +kernel
theorem dX10_growth_36 : decode cX10_growth 36 = .ok (.dmul, 1) := by decide +kernel
theorem dX10_growth_37 : decode cX10_growth 37 = .ok (.dadd, 1) := by decide +kernel
theorem dX10_growth_38 : decode cX10_growth 38 = .ok (.aload_n 2, 1) := by decide +kernel
theorem dX10_growth_39 : decode cX10_growth 39 = .ok (.iconst 3, 1) := by decide +kernel
theorem dX10_growth_40 : decode cX10_growth 40 = .ok (.iaload, 1) := by decide +kernel
theorem dX10_growth_41 : decode cX10_growth 41 = .ok (.i2d, 1) := by decide +kernel
theorem dX10_growth_42 : decode cX10_growth 42 = .ok (.dadd, 1) := by decide +kernel
theorem dX10_growth_43 : decode cX10_growth 43 = .ok (.aload_n 2, 1) := by decide +kernel
theorem dX10_growth_44 : decode cX10_growth 44 = .ok (.iconst 0, 1) := by decide +kernel
theorem dX10_growth_45 : decode cX10_growth 45 = .ok (.iaload, 1) := by decide +kernel
theorem dX10_growth_46 : decode cX10_growth 46 = .ok (.aload_n 2, 1) := by decide +kernel
theorem dX10_growth_47 : decode cX10_growth 47 = .ok (.iconst 1, 1) := by decide +kernel
theorem dX10_growth_48 : decode cX10_growth 48 = .ok (.iaload, 1) := by decide +kernel
theorem dX10_growth_49 : decode cX10_growth 49 = .ok (.iadd, 1) := by decide +kernel
theorem dX10_growth_50 : decode cX10_growth 50 = .ok (.aload_n 2, 1) := by decide +kernel
theorem dX10_growth_51 : decode cX10_growth 51 = .ok (.iconst 2, 1) := by decide +kernel
theorem dX10_growth_52 : decode cX10_growth 52 = .ok (.iaload, 1) := by decide +kernel
theorem dX10_growth_53 : decode cX10_growth 53 = .ok (.iadd, 1) := by decide +kernel
theorem dX10_growth_54 : decode cX10_growth 54 = .ok (.aload_n 2, 1) := by decide +kernel
theorem dX10_growth_55 : decode cX10_growth 55 = .ok (.iconst 3, 1) := by decide +kernel
theorem dX10_growth_56 : decode cX10_growth 56 = .ok (.iaload, 1) := by decide +kernel
theorem dX10_growth_57 : decode cX10_growth 57 = .ok (.iadd, 1) := by decide +kernel
theorem dX10_growth_58 : decode cX10_growth 58 = .ok (.i2d, 1) := by decide +kernel
theorem dX10_growth_59 : decode cX10_growth 59 = .ok (.ddiv, 1) := by decide +kernel
theorem dX10_growth_60 : decode cX10_growth 60 = .ok (.dreturn, 1) := by decide +kernel
theorem dX10_growthOf_0 : decode cX10_growthOf 0 = .ok (.aload_n 0, 1) := by decide +kernel
theorem dX10_growthOf_1 : decode cX10_growthOf 1 = .ok (.getfield 10, 3) := by decide +kernel
theorem dX10_growthOf_4 : decode cX10_growthOf 4 = .ok (.iload_n 1, 1) := by decide +kernel
theorem dX10_growthOf_5 : decode cX10_growthOf 5 = .ok (.invokevirtual 58, 3) := by decide +kernel
theorem dX10_growthOf_8 : decode cX10_growthOf 8 = .ok (.checkcast 62, 3) := by decide +kernel
theorem dX10_growthOf_11 : decode cX10_growthOf 11 = .ok (.iconst 1, 1) := by decide +kernel
theorem dX10_growthOf_12 : decode cX10_growthOf 12 = .ok (.iaload, 1) := by decide +kernel
theorem dX10_growthOf_13 : decode cX10_growthOf 13 = .ok (.i2d, 1) := by decide +kernel
theorem dX10_growthOf_14 : decode cX10_growthOf 14 = .ok (.ldc2_w 86, 3) := by decide +kernel
theorem dX10_growthOf_17 : decode cX10_growthOf 17 = .ok (.dmul, 1) := by decide +kernel
theorem dX10_growthOf_18 : decode cX10_growthOf 18 = .ok (.dreturn, 1) := by decide +kernel
theorem dX10_clay_0 : decode cX10_clay 0 = .ok (.aload_n 0, 1) := by decide +kernel
theorem dX10_clay_1 : decode cX10_clay 1 = .ok (.iload_n 1, 1) := by decide +kernel
theorem dX10_clay_2 : decode cX10_clay 2 = .ok (.iconst 1, 1) := by decide +kernel
theorem dX10_clay_3 : decode cX10_clay 3 = .ok (.bipush 12, 2) := by decide +kernel
theorem dX10_clay_5 : decode cX10_clay 5 = .ok (.invokestatic 44, 3) := by decide +kernel
theorem dX10_clay_8 : decode cX10_clay 8 = .ok (.ifCond .eq 14, 3) := by decide +kernel
theorem dX10_clay_11 : decode cX10_clay 11 = .ok (.iload_n 2, 1) := by decide +kernel
theorem dX10_clay_12 : decode cX10_clay 12 = .ok (.bipush 8, 2) := by decide +kernel
theorem dX10_clay_14 : decode cX10_clay 14 = .ok (.bipush 40, 2) := by decide +kernel
theorem dX10_clay_16 : decode cX10_clay 16 = .ok (.invokestatic 44, 3) := by decide +kernel
theorem dX10_clay_19 : decode cX10_clay 19 = .ok (.ifCond .ne 7, 3) := by decide +kernel
theorem dX10_clay_22 : decode cX10_clay 22 = .ok (.iconst 1, 1) := by decide +kernel
theorem dX10_clay_23 : decode cX10_clay 23 = .ok (.goto 4, 3) := by decide +kernel
theorem dX10_clay_26 : decode cX10_clay 26 = .ok (.iconst 0, 1) := by decide +kernel
theorem dX10_clay_27 : decode cX10_clay 27 = .ok (.iconst 1, 1) := by decide +kernel
theorem dX10_clay_28 : decode cX10_clay 28 = .ok (.invokevirtual 88, 3) := by decide +kernel
theorem dX10_clay_31 : decode cX10_clay 31 = .ok (.ifCond .ne 27, 3) := by decide +kernel
theorem dX10_clay_34 : decode cX10_clay 34 = .ok (.aload_n 0, 1) := by decide +kernel
theorem dX10_clay_35 : decode cX10_clay 35 = .ok (.aload_n 0, 1) := by decide +kernel
theorem dX10_clay_36 : decode cX10_clay 36 = .ok (.getfield 10, 3) := by decide +kernel
theorem dX10_clay_39 : decode cX10_clay 39 = .ok (.invokevirtual 40, 3) := by decide +kernel
theorem dX10_clay_42 : decode cX10_clay 42 = .ok (.iconst 3, 1) := by decide +kernel
theorem dX10_clay_43 : decode cX10_clay 43 = .ok (.if_icmp .ne 7, 3) := by decide +kernel
theorem dX10_clay_46 : decode cX10_clay 46 = .ok (.iconst 1, 1) := by decide +kernel
theorem dX10_clay_47 : decode cX10_clay 47 = .ok (.goto 4, 3) := by decide +kernel
theorem dX10_clay_50 : decode cX10_clay 50 = .ok (.iconst 0, 1) := by decide +kernel
theorem dX10_clay_51 : decode cX10_clay 51 = .ok (.iconst 2, 1) := by decide +kernel
theorem dX10_clay_52 : decode cX10_clay 52 = .ok (.invokevirtual 36, 3) := by decide +kernel
theorem dX10_clay_55 : decode cX10_clay 55 = .ok (.ifCond .eq 5, 3) := by decide +kernel
theorem dX10_clay_58 : decode cX10_clay 58 = .ok (.iconst 0, 1) := by decide +kernel
theorem dX10_clay_59 : decode cX10_clay 59 = .ok (.ireturn, 1) := by decide +kernel
theorem dX10_clay_60 : decode cX10_clay 60 = .ok (.aload_n 0, 1) := by decide +kernel
theorem dX10_clay_61 : decode cX10_clay 61 = .ok (.getfield 10, 3) := by decide +kernel
theorem dX10_clay_64 : decode cX10_clay 64 = .ok (.iconst 2, 1) := by decide +kernel
theorem dX10_clay_65 : decode cX10_clay 65 = .ok (.newarray .int, 2) := by decide +kernel
theorem dX10_clay_67 : decode cX10_clay 67 = .ok (.dup, 1) := by decide +kernel
theorem dX10_clay_68 : decode cX10_clay 68 = .ok (.iconst 0, 1) := by decide +kernel
theorem dX10_clay_69 : decode cX10_clay 69 = .ok (.iload_n 1, 1) := by decide +kernel
theorem dX10_clay_70 : decode cX10_clay 70 = .ok (.iastore, 1) := by decide +kernel
theorem dX10_clay_71 : decode cX10_clay 71 = .ok (.dup, 1) := by decide +kernel
theorem dX10_clay_72 : decode cX10_clay 72 = .ok (.iconst 1, 1) := by decide +kernel
theorem dX10_clay_73 : decode cX10_clay 73 = .ok (.iload_n 2, 1) := by decide +kernel
theorem dX10_clay_74 : decode cX10_clay 74 = .ok (.iastore, 1) := by decide +kernel
theorem dX10_clay_75 : decode cX10_clay 75 = .ok (.invokevirtual 91, 3) := by decide +kernel
theorem dX10_clay_78 : decode cX10_clay 78 = .ok (.pop, 1) := by decide +kernel
theorem dX10_clay_79 : decode cX10_clay 79 = .ok (.aload_n 0, 1) := by decide +kernel
theorem dX10_clay_80 : decode cX10_clay 80 = .ok (.getfield 10, 3) := by decide +kernel
theorem dX10_clay_83 : decode cX10_clay 83 = .ok (.invokevirtual 40, 3) := by decide +kernel
theorem dX10_clay_86 : decode cX10_clay 86 = .ok (.iconst 1, 1) := by decide +kernel
theorem dX10_clay_87 : decode cX10_clay 87 = .ok (.isub, 1) := by decide +kernel
theorem dX10_clay_88 : decode cX10_clay 88 = .ok (.ireturn, 1) := by decide +kernel
theorem dX10_glaze_0 : decode cX10_glaze 0 = .ok (.iconst 5, 1) := by decide +kernel
theorem dX10_glaze_1 : decode cX10_glaze 1 = .ok (.newarray .int, 2) := by decide +kernel
theorem dX10_glaze_3 : decode cX10_glaze 3 = .ok (.dup, 1) := by decide +kernel
theorem dX10_glaze_4 : decode cX10_glaze 4 = .ok (.iconst 0, 1) := by decide +kernel
theorem dX10_glaze_5 : decode cX10_glaze 5 = .ok (.iload_n 1, 1) := by decide +kernel
theorem dX10_glaze_6 : decode cX10_glaze 6 = .ok (.iastore, 1) := by decide +kernel
theorem dX10_glaze_7 : decode cX10_glaze 7 = .ok (.dup, 1) := by decide +kernel
theorem dX10_glaze_8 : decode cX10_glaze 8 = .ok (.iconst 1, 1) := by decide +kernel
theorem dX10_glaze_9 : decode cX10_glaze 9 = .ok (.iload_n 2, 1) := by decide +kernel
theorem dX10_glaze_10 : decode cX10_glaze 10 = .ok (.iastore, 1) := by decide +kernel
theorem dX10_glaze_11 : decode cX10_glaze 11 = .ok (.dup, 1) := by decide +kernel
theorem dX10_glaze_12 : decode cX10_glaze 12 = .ok (.iconst 2, 1) := by decide +kernel
theorem dX10_glaze_13 : decode cX10_glaze 13 = .ok (.iload_n 3, 1) := by decide +kernel
theorem dX10_glaze_14 : decode cX10_glaze 14 = .ok (.iastore, 1) := by decide +kernel
theorem dX10_glaze_15 : decode cX10_glaze 15 = .ok (.dup, 1) := by decide +kernel
theorem dX10_glaze_16 : decode cX10_glaze 16 = .ok (.iconst 3, 1) := by decide +kernel
theorem dX10_glaze_17 : decode cX10_glaze 17 = .ok (.iload 4, 2) := by decide +kernel
theorem dX10_glaze_19 : decode cX10_glaze 19 = .ok (.iastore, 1) := by decide +kernel
theorem dX10_glaze_20 : decode cX10_glaze 20 = .ok (.dup, 1) := by decide +kernel
theorem dX10_glaze_21 : decode cX10_glaze 21 = .ok (.iconst 4, 1) := by decide +kernel
theorem dX10_glaze_22 : decode cX10_glaze 22 = .ok (.iload 5, 2) := by decide +kernel
theorem dX10_glaze_24 : decode cX10_glaze 24 = .ok (.iastore, 1) := by decide +kernel
theorem dX10_glaze_25 : decode cX10_glaze 25 = .ok (.astore 6, 2) := by decide +kernel
theorem dX10_glaze_27 : decode cX10_glaze 27 = .ok (.iload_n 1, 1) := by decide +kernel
theorem dX10_glaze_28 : decode cX10_glaze 28 = .ok (.ifCond .ne 11, 3) := by decide +kernel
theorem dX10_glaze_31 : decode cX10_glaze 31 = .ok (.iload_n 2, 1) := by decide +kernel
theorem dX10_glaze_32 : decode cX10_glaze 32 = .ok (.ifCond .ne 7, 3) := by decide +kernel
theorem dX10_glaze_35 : decode cX10_glaze 35 = .ok (.iconst 1, 1) := by decide +kernel
theorem dX10_glaze_36 : decode cX10_glaze 36 = .ok (.goto 4, 3) := by decide +kernel
theorem dX10_glaze_39 : decode cX10_glaze 39 = .ok (.iconst 0, 1) := by decide +kernel
theorem dX10_glaze_40 : decode cX10_glaze 40 = .ok (.istore 7, 2) := by decide +kernel
theorem dX10_glaze_42 : decode cX10_glaze 42 = .ok (.aload 6, 2) := by decide +kernel
theorem dX10_glaze_44 : decode cX10_glaze 44 = .ok (.astore 8, 2) := by decide +kernel
theorem dX10_glaze_46 : decode cX10_glaze 46 = .ok (.aload 8, 2) := by decide +kernel
theorem dX10_glaze_48 : decode cX10_glaze 48 = .ok (.arraylength, 1) := by decide +kernel
theorem dX10_glaze_49 : decode cX10_glaze 49 = .ok (.istore 9, 2) := by decide +kernel
theorem dX10_glaze_51 : decode cX10_glaze 51 = .ok (.iconst 0, 1) := by decide +kernel
theorem dX10_glaze_52 : decode cX10_glaze 52 = .ok (.istore 10, 2) := by decide +kernel
theorem dX10_glaze_54 : decode cX10_glaze 54 = .ok (.iload 10, 2) := by decide +kernel
theorem dX10_glaze_56 : decode cX10_glaze 56 = .ok (.iload 9, 2) := by decide +kernel
theorem dX10_glaze_58 : decode cX10_glaze 58 = .ok (.if_icmp .ge 37, 3) := by decide +kernel
theorem dX10_glaze_61 : decode cX10_glaze 61 = .ok (.aload 8, 2) := by decide +kernel
theorem dX10_glaze_63 : decode cX10_glaze 63 = .ok (.iload 10, 2) := by decide +kernel
theorem dX10_glaze_65 : decode cX10_glaze 65 = .ok (.iaload, 1) := by decide +kernel
theorem dX10_glaze_66 : decode cX10_glaze 66 = .ok (.istore 11, 2) := by decide +kernel
theorem dX10_glaze_68 : decode cX10_glaze 68 = .ok (.iload 7, 2) := by decide +kernel
theorem dX10_glaze_70 : decode cX10_glaze 70 = .ok (.iload 11, 2) := by decide +kernel
theorem dX10_glaze_72 : decode cX10_glaze 72 = .ok (.iconst 0, 1) := by decide +kernel
theorem dX10_glaze_73 : decode cX10_glaze 73 = .ok (.bipush 60, 2) := by decide +kernel
theorem dX10_glaze_75 : decode cX10_glaze 75 = .ok (.invokestatic 44, 3) := by decide +kernel
theorem dX10_glaze_78 : decode cX10_glaze 78 = .ok (.ifCond .ne 7, 3) := by decide +kernel
theorem dX10_glaze_81 : decode cX10_glaze 81 = .ok (.iconst 1, 1) := by decide +kernel
theorem dX10_glaze_82 : decode cX10_glaze 82 = .ok (.goto 4, 3) := by decide +kernel
theorem dX10_glaze_85 : decode cX10_glaze 85 = .ok (.iconst 0, 1) := by decide +kernel
theorem dX10_glaze_86 : decode cX10_glaze 86 = .ok (.ior, 1) := by decide +kernel
theorem dX10_glaze_87 : decode cX10_glaze 87 = .ok (.istore 7, 2) := by decide +kernel
theorem dX10_glaze_89 : decode cX10_glaze 89 = .ok (.iinc 10 1, 3) := by decide +kernel
theorem dX10_glaze_92 : decode cX10_glaze 92 = .ok (.goto (-38), 3) := by decide +kernel
theorem dX10_glaze_95 : decode cX10_glaze 95 = .ok (.aload_n 0, 1) := by decide +kernel
theorem dX10_glaze_96 : decode cX10_glaze 96 = .ok (.iload 7, 2) := by decide +kernel
theorem dX10_glaze_98 : decode cX10_glaze 98 = .ok (.iconst 1, 1) := by decide +kernel
theorem dX10_glaze_99 : decode cX10_glaze 99 = .ok (.invokevirtual 88, 3) := by decide +kernel
theorem dX10_glaze_102 : decode cX10_glaze 102 = .ok (.ifCond .ne 27, 3) := by decide +kernel
theorem dX10_glaze_105 : decode cX10_glaze 105 = .ok (.aload_n 0, 1) := by decide +kernel
theorem dX10_glaze_106 : decode cX10_glaze 106 = .ok (.aload_n 0, 1) := by decide +kernel
theorem dX10_glaze_107 : decode cX10_glaze 107 = .ok (.getfield 16, 3) := by decide +kernel
theorem dX10_glaze_110 : decode cX10_glaze 110 = .ok (.invokevirtual 40, 3) := by decide +kernel
theorem dX10_glaze_113 : decode cX10_glaze 113 = .ok (.iconst 4, 1) := by decide +kernel
theorem dX10_glaze_114 : decode cX10_glaze 114 = .ok (.if_icmp .ne 7, 3) := by decide +kernel
theorem dX10_glaze_117 : decode cX10_glaze 117 = .ok (.iconst 1, 1) := by decide +kernel
theorem dX10_glaze_118 : decode cX10_glaze 118 = .ok (.goto 4, 3) := by decide +kernel
theorem dX10_glaze_121 : decode cX10_glaze 121 = .ok (.iconst 0, 1) := by decide +kernel
theorem dX10_glaze_122 : decode cX10_glaze 122 = .ok (.iconst 2, 1) := by decide +kernel
theorem dX10_glaze_123 : decode cX10_glaze 123 = .ok (.invokevirtual 36, 3) := by decide +kernel
theorem dX10_glaze_126 : decode cX10_glaze 126 = .ok (.ifCond .eq 5, 3) := by decide +kernel
theorem dX10_glaze_129 : decode cX10_glaze 129 = .ok (.iconst 0, 1) := by decide +kernel
theorem dX10_glaze_130 : decode cX10_glaze 130 = .ok (.ireturn, 1) := by decide +kernel
theorem dX10_glaze_131 : decode cX10_glaze 131 = .ok (.aload_n 0, 1) := by decide +kernel
theorem dX10_glaze_132 : decode cX10_glaze 132 = .ok (.getfield 16, 3) := by decide +kernel
theorem dX10_glaze_135 : decode cX10_glaze 135 = .ok (.aload 6, 2) := by decide +kernel
theorem dX10_glaze_137 : decode cX10_glaze 137 = .ok (.invokevirtual 91, 3) := by decide +kernel
theorem dX10_glaze_140 : decode cX10_glaze 140 = .ok (.pop, 1) := by decide +kernel
theorem dX10_glaze_141 : decode cX10_glaze 141 = .ok (.aload_n 0, 1) := by decide +kernel
theorem dX10_glaze_142 : decode cX10_glaze 142 = .ok (.getfield 16, 3) := by decide +kernel
theorem dX10_glaze_145 : decode cX10_glaze 145 = .ok (.invokevirtual 40, 3) := by decide +kernel
theorem dX10_glaze_148 : decode cX10_glaze 148 = .ok (.iconst 1, 1) := by decide +kernel
theorem dX10_glaze_149 : decode cX10_glaze 149 = .ok (.isub, 1) := by decide +kernel
theorem dX10_glaze_150 : decode cX10_glaze 150 = .ok (.ireturn, 1) := by decide +kernel
theorem dX10_pot_0 : decode cX10_pot 0 = .ok (.aload_n 0, 1) := by decide +kernel
theorem dX10_pot_1 : decode cX10_pot 1 = .ok (.aload_n 0, 1) := by decide +kernel
theorem dX10_pot_2 : decode cX10_pot 2 = .ok (.iload_n 1, 1) := by decide +kernel
theorem dX10_pot_3 : decode cX10_pot 3 = .ok (.invokevirtual 95, 3) := by decide +kernel
theorem dX10_pot_6 : decode cX10_pot 6 = .ok (.iconst 1, 1) := by decide +kernel
theorem dX10_pot_7 : decode cX10_pot 7 = .ok (.invokevirtual 88, 3) := by decide +kernel
theorem dX10_pot_10 : decode cX10_pot 10 = .ok (.ifCond .ne 77, 3) := by decide +kernel
theorem dX10_pot_13 : decode cX10_pot 13 = .ok (.aload_n 0, 1) := by decide +kernel
theorem dX10_pot_14 : decode cX10_pot 14 = .ok (.iload_n 2, 1) := by decide +kernel
theorem dX10_pot_15 : decode cX10_pot 15 = .ok (.iconst 1, 1) := by decide +kernel
theorem dX10_pot_16 : decode cX10_pot 16 = .ok (.iconst 5, 1) := by decide +kernel
theorem dX10_pot_17 : decode cX10_pot 17 = .ok (.invokestatic 44, 3) := by decide +kernel
theorem dX10_pot_20 : decode cX10_pot 20 = .ok (.ifCond .eq 30, 3) := by decide +kernel
theorem dX10_pot_23 : decode cX10_pot 23 = .ok (.iload_n 3, 1) := by decide +kernel
theorem dX10_pot_24 : decode cX10_pot 24 = .ok (.iconst 1, 1) := by decide +kernel
theorem dX10_pot_25 : decode cX10_pot 25 = .ok (.iconst 3, 1) := by decide +kernel
theorem dX10_pot_26 : decode cX10_pot 26 = .ok (.invokestatic 44, 3) := by decide +kernel
theorem dX10_pot_29 : decode cX10_pot 29 = .ok (.ifCond .eq 21, 3) := by decide +kernel
theorem dX10_pot_32 : decode cX10_pot 32 = .ok (.iload 4, 2) := by decide +kernel
theorem dX10_pot_34 : decode cX10_pot 34 = .ok (.iconst 1, 1) := by decide +kernel
theorem dX10_pot_35 : decode cX10_pot 35 = .ok (.if_icmp .eq 19, 3) := by decide +kernel
theorem dX10_pot_38 : decode cX10_pot 38 = .ok (.iload 4, 2) := by decide +kernel
theorem dX10_pot_40 : decode cX10_pot 40 = .ok (.iconst 2, 1) := by decide +kernel
theorem dX10_pot_41 : decode cX10_pot 41 = .ok (.if_icmp .eq 13, 3) := by decide +kernel
theorem dX10_pot_44 : decode cX10_pot 44 = .ok (.iload 4, 2) := by decide +kernel
theorem dX10_pot_46 : decode cX10_pot 46 = .ok (.iconst 4, 1) := by decide +kernel
theorem dX10_pot_47 : decode cX10_pot 47 = .ok (.if_icmp .eq 7, 3) := by decide +kernel
theorem dX10_pot_50 : decode cX10_pot 50 = .ok (.iconst 1, 1) := by decide +kernel
theorem dX10_pot_51 : decode cX10_pot 51 = .ok (.goto 4, 3) := by decide +kernel
theorem dX10_pot_54 : decode cX10_pot 54 = .ok (.iconst 0, 1) := by decide +kernel
theorem dX10_pot_55 : decode cX10_pot 55 = .ok (.iconst 2, 1) := by decide +kernel
theorem dX10_pot_56 : decode cX10_pot 56 = .ok (.invokevirtual 36, 3) := by decide +kernel
theorem dX10_pot_59 : decode cX10_pot 59 = .ok (.ifCond .ne 28, 3) := by decide +kernel
theorem dX10_pot_62 : decode cX10_pot 62 = .ok (.aload_n 0, 1) := by decide +kernel
theorem dX10_pot_63 : decode cX10_pot 63 = .ok (.aload_n 0, 1) := by decide +kernel
theorem dX10_pot_64 : decode cX10_pot 64 = .ok (.getfield 19, 3) := by decide +kernel
theorem dX10_pot_67 : decode cX10_pot 67 = .ok (.invokevirtual 40, 3) := by decide +kernel
theorem dX10_pot_70 : decode cX10_pot 70 = .ok (.bipush 14, 2) := by decide +kernel
theorem dX10_pot_72 : decode cX10_pot 72 = .ok (.if_icmp .ne 7, 3) := by decide +kernel
theorem dX10_pot_75 : decode cX10_pot 75 = .ok (.iconst 1, 1) := by decide +kernel
theorem dX10_pot_76 : decode cX10_pot 76 = .ok (.goto 4, 3) := by decide +kernel
theorem dX10_pot_79 : decode cX10_pot 79 = .ok (.iconst 0, 1) := by decide +kernel
theorem dX10_pot_80 : decode cX10_pot 80 = .ok (.iconst 3, 1) := by decide +kernel
theorem dX10_pot_81 : decode cX10_pot 81 = .ok (.invokevirtual 36, 3) := by decide +kernel
theorem dX10_pot_84 : decode cX10_pot 84 = .ok (.ifCond .eq 5, 3) := by decide +kernel
theorem dX10_pot_87 : decode cX10_pot 87 = .ok (.iconst 0, 1) := by decide +kernel
theorem dX10_pot_88 : decode cX10_pot 88 = .ok (.ireturn, 1) := by decide +kernel
theorem dX10_pot_89 : decode cX10_pot 89 = .ok (.aload_n 0, 1) := by decide +kernel
theorem dX10_pot_90 : decode cX10_pot 90 = .ok (.getfield 19, 3) := by decide +kernel
theorem dX10_pot_93 : decode cX10_pot 93 = .ok (.new 99, 3) := by decide +kernel
theorem dX10_pot_96 : decode cX10_pot 96 = .ok (.dup, 1) := by decide +kernel
theorem dX10_pot_97 : decode cX10_pot 97 = .ok (.iload_n 1, 1) := by decide +kernel
theorem dX10_pot_98 : decode cX10_pot 98 = .ok (.iload_n 2, 1) := by decide +kernel
theorem dX10_pot_99 : decode cX10_pot 99 = .ok (.iload_n 3, 1) := by decide +kernel
theorem dX10_pot_100 : decode cX10_pot 100 = .ok (.iload 4, 2) := by decide +kernel
theorem dX10_pot_102 : decode cX10_pot 102 = .ok (.invokespecial 101, 3) := by decide +kernel
theorem dX10_pot_105 : decode cX10_pot 105 = .ok (.invokevirtual 91, 3) := by decide +kernel
theorem dX10_pot_108 : decode cX10_pot 108 = .ok (.pop, 1) := by decide +kernel
theorem dX10_pot_109 : decode cX10_pot 109 = .ok (.aload_n 0, 1) := by decide +kernel
theorem dX10_pot_110 : decode cX10_pot 110 = .ok (.getfield 19, 3) := by decide +kernel
theorem dX10_pot_113 : decode cX10_pot 113 = .ok (.invokevirtual 40, 3) := by decide +kernel
theorem dX10_pot_116 : decode cX10_pot 116 = .ok (.iconst 1, 1) := by decide +kernel
theorem dX10_pot_117 : decode cX10_pot 117 = .ok (.isub, 1) := by decide +kernel
theorem dX10_pot_118 : decode cX10_pot 118 = .ok (.ireturn, 1) := by decide +kernel
theorem dX10_cover_0 : decode cX10_cover 0 = .ok (.aload_n 0, 1) := by decide +kernel
theorem dX10_cover_1 : decode cX10_cover 1 = .ok (.aload_n 0, 1) := by decide +kernel
theorem dX10_cover_2 : decode cX10_cover 2 = .ok (.iload_n 1, 1) := by decide +kernel
theorem dX10_cover_3 : decode cX10_cover 3 = .ok (.invokevirtual 104, 3) := by decide +kernel
theorem dX10_cover_6 : decode cX10_cover 6 = .ok (.iconst 1, 1) := by decide +kernel
theorem dX10_cover_7 : decode cX10_cover 7 = .ok (.invokevirtual 88, 3) := by decide +kernel
theorem dX10_cover_10 : decode cX10_cover 10 = .ok (.ifCond .eq 5, 3) := by decide +kernel
theorem dX10_cover_13 : decode cX10_cover 13 = .ok (.iconst 0, 1) := by decide +kernel
theorem dX10_cover_14 : decode cX10_cover 14 = .ok (.ireturn, 1) := by decide +kernel
theorem dX10_cover_15 : decode cX10_cover 15 = .ok (.aload_n 0, 1) := by decide +kernel
theorem dX10_cover_16 : decode cX10_cover 16 = .ok (.getfield 19, 3) := by decide +kernel
theorem dX10_cover_19 : decode cX10_cover 19 = .ok (.iload_n 1, 1) := by decide +kernel
theorem dX10_cover_20 : decode cX10_cover 20 = .ok (.invokevirtual 58, 3) := by decide +kernel
theorem dX10_cover_23 : decode cX10_cover 23 = .ok (.checkcast 99, 3) := by decide +kernel
theorem dX10_cover_26 : decode cX10_cover 26 = .ok (.getfield 107, 3) := by decide +kernel
theorem dX10_cover_29 : decode cX10_cover 29 = .ok (.istore_n 3, 1) := by decide +kernel
theorem dX10_cover_30 : decode cX10_cover 30 = .ok (.aload_n 0, 1) := by decide +kernel
theorem dX10_cover_31 : decode cX10_cover 31 = .ok (.getfield 19, 3) := by decide +kernel
theorem dX10_cover_34 : decode cX10_cover 34 = .ok (.iload_n 1, 1) := by decide +kernel
theorem dX10_cover_35 : decode cX10_cover 35 = .ok (.invokevirtual 58, 3) := by decide +kernel
theorem dX10_cover_38 : decode cX10_cover 38 = .ok (.checkcast 99, 3) := by decide +kernel
theorem dX10_cover_41 : decode cX10_cover 41 = .ok (.iload_n 2, 1) := by decide +kernel
theorem dX10_cover_42 : decode cX10_cover 42 = .ok (.putfield 107, 3) := by decide +kernel
theorem dX10_cover_45 : decode cX10_cover 45 = .ok (.iload_n 3, 1) := by decide +kernel
theorem dX10_cover_46 : decode cX10_cover 46 = .ok (.ireturn, 1) := by decide +kernel
theorem dX10_manyIn_0 : decode cX10_manyIn 0 = .ok (.iconst 0, 1) := by decide +kernel
theorem dX10_manyIn_1 : decode cX10_manyIn 1 = .ok (.istore_n 2, 1) := by decide +kernel
theorem dX10_manyIn_2 : decode cX10_manyIn 2 = .ok (.aload_n 0, 1) := by decide +kernel
theorem dX10_manyIn_3 : decode cX10_manyIn 3 = .ok (.getfield 19, 3) := by decide +kernel
theorem dX10_manyIn_6 : decode cX10_manyIn 6 = .ok (.invokevirtual 110, 3) := by decide +kernel
theorem dX10_manyIn_9 : decode cX10_manyIn 9 = .ok (.astore_n 3, 1) := by decide +kernel
theorem dX10_manyIn_10 : decode cX10_manyIn 10 = .ok (.aload_n 3, 1) := by decide +kernel
theorem dX10_manyIn_11 : decode cX10_manyIn 11 = .ok (.invokeinterface 114 1, 5) := by decide +kernel
theorem dX10_manyIn_16 : decode cX10_manyIn 16 = .ok (.ifCond .eq 37, 3) := by decide +kernel
theorem dX10_manyIn_19 : decode cX10_manyIn 19 = .ok (.aload_n 3, 1) := by decide +kernel
theorem dX10_manyIn_20 : decode cX10_manyIn 20 = .ok (.invokeinterface 120 1, 5) := by decide +kernel
theorem dX10_manyIn_25 : decode cX10_manyIn 25 = .ok (.checkcast 99, 3) := by decide +kernel
theorem dX10_manyIn_28 : decode cX10_manyIn 28 = .ok (.astore 4, 2) := by decide +kernel
theorem dX10_manyIn_30 : decode cX10_manyIn 30 = .ok (.iload_n 2, 1) := by decide +kernel
theorem dX10_manyIn_31 : decode cX10_manyIn 31 = .ok (.aload 4, 2) := by decide +kernel
theorem dX10_manyIn_33 : decode cX10_manyIn 33 = .ok (.getfield 124, 3) := by decide +kernel
theorem dX10_manyIn_36 : decode cX10_manyIn 36 = .ok (.iload_n 1, 1) := by decide +kernel
theorem dX10_manyIn_37 : decode cX10_manyIn 37 = .ok (.if_icmp .ne 7, 3) := by decide +kernel
theorem dX10_manyIn_40 : decode cX10_manyIn 40 = .ok (.iconst 1, 1) := by decide +kernel
theorem dX10_manyIn_41 : decode cX10_manyIn 41 = .ok (.goto 4, 3) := by decide +kernel
theorem dX10_manyIn_44 : decode cX10_manyIn 44 = .ok (.iconst 0, 1) := by decide +kernel
theorem dX10_manyIn_45 : decode cX10_manyIn 45 = .ok (.invokestatic 127, 3) := by decide +kernel
theorem dX10_manyIn_48 : decode cX10_manyIn 48 = .ok (.iadd, 1) := by decide +kernel
theorem dX10_manyIn_49 : decode cX10_manyIn 49 = .ok (.istore_n 2, 1) := by decide +kernel
theorem dX10_manyIn_50 : decode cX10_manyIn 50 = .ok (.goto (-40), 3) := by decide +kernel
theorem dX10_manyIn_53 : decode cX10_manyIn 53 = .ok (.iload_n 2, 1) := by decide +kernel
theorem dX10_manyIn_54 : decode cX10_manyIn 54 = .ok (.ireturn, 1) := by decide +kernel
theorem dX10_dry_0 : decode cX10_dry 0 = .ok (.aload_n 0, 1) := by decide +kernel
theorem dX10_dry_1 : decode cX10_dry 1 = .ok (.iload_n 1, 1) := by decide +kernel
theorem dX10_dry_2 : decode cX10_dry 2 = .ok (.iconst 1, 1) := by decide +kernel
theorem dX10_dry_3 : decode cX10_dry 3 = .ok (.bipush 20, 2) := by decide +kernel
theorem dX10_dry_5 : decode cX10_dry 5 = .ok (.invokestatic 44, 3) := by decide +kernel
theorem dX10_dry_8 : decode cX10_dry 8 = .ok (.ifCond .eq 13, 3) := by decide +kernel
theorem dX10_dry_11 : decode cX10_dry 11 = .ok (.iload_n 2, 1) := by decide +kernel
theorem dX10_dry_12 : decode cX10_dry 12 = .ok (.iconst 1, 1) := by decide +kernel
theorem dX10_dry_13 : decode cX10_dry 13 = .ok (.bipush 8, 2) := by decide +kernel
theorem dX10_dry_15 : decode cX10_dry 15 = .ok (.invokestatic 44, 3) := by decide +kernel
theorem dX10_dry_18 : decode cX10_dry 18 = .ok (.ifCond .ne 7, 3) := by decide +kernel
theorem dX10_dry_21 : decode cX10_dry 21 = .ok (.iconst 1, 1) := by decide +kernel
theorem dX10_dry_22 : decode cX10_dry 22 = .ok (.goto 4, 3) := by decide +kernel
theorem dX10_dry_25 : decode cX10_dry 25 = .ok (.iconst 0, 1) := by decide +kernel
theorem dX10_dry_26 : decode cX10_dry 26 = .ok (.iconst 1, 1) := by decide +kernel
theorem dX10_dry_27 : decode cX10_dry 27 = .ok (.invokevirtual 88, 3) := by decide +kernel
theorem dX10_dry_30 : decode cX10_dry 30 = .ok (.ifCond .ne 28, 3) := by decide +kernel
theorem dX10_dry_33 : decode cX10_dry 33 = .ok (.aload_n 0, 1) := by decide +kernel
theorem dX10_dry_34 : decode cX10_dry 34 = .ok (.aload_n 0, 1) := by decide +kernel
theorem dX10_dry_35 : decode cX10_dry 35 = .ok (.getfield 131, 3) := by decide +kernel
theorem dX10_dry_38 : decode cX10_dry 38 = .ok (.iload_n 1, 1) := by decide +kernel
theorem dX10_dry_39 : decode cX10_dry 39 = .ok (.iadd, 1) := by decide +kernel
theorem dX10_dry_40 : decode cX10_dry 40 = .ok (.sipush 200, 3) := by decide +kernel
theorem dX10_dry_43 : decode cX10_dry 43 = .ok (.if_icmp .le 7, 3) := by decide +kernel
theorem dX10_dry_46 : decode cX10_dry 46 = .ok (.iconst 1, 1) := by decide +kernel
theorem dX10_dry_47 : decode cX10_dry 47 = .ok (.goto 4, 3) := by decide +kernel
theorem dX10_dry_50 : decode cX10_dry 50 = .ok (.iconst 0, 1) := by decide +kernel
theorem dX10_dry_51 : decode cX10_dry 51 = .ok (.iconst 2, 1) := by decide +kernel
theorem dX10_dry_52 : decode cX10_dry 52 = .ok (.invokevirtual 36, 3) := by decide +kernel
theorem dX10_dry_55 : decode cX10_dry 55 = .ok (.ifCond .eq 5, 3) := by decide +kernel
theorem dX10_dry_58 : decode cX10_dry 58 = .ok (.iconst 0, 1) := by decide +kernel
theorem dX10_dry_59 : decode cX10_dry 59 = .ok (.ireturn, 1) := by decide +kernel
theorem dX10_dry_60 : decode cX10_dry 60 = .ok (.iconst 0, 1) := by decide +kernel
theorem dX10_dry_61 : decode cX10_dry 61 = .ok (.istore_n 3, 1) := by decide +kernel
theorem dX10_dry_62 : decode cX10_dry 62 = .ok (.iload_n 3, 1) := by decide +kernel
theorem dX10_dry_63 : decode cX10_dry 63 = .ok (.iload_n 1, 1) := by decide +kernel
theorem dX10_dry_64 : decode cX10_dry 64 = .ok (.if_icmp .ge 49, 3) := by decide +kernel
theorem dX10_dry_67 : decode cX10_dry 67 = .ok (.aload_n 0, 1) := by decide +kernel
theorem dX10_dry_68 : decode cX10_dry 68 = .ok (.getfield 19, 3) := by decide +kernel
theorem dX10_dry_71 : decode cX10_dry 71 = .ok (.invokevirtual 110, 3) := by decide +kernel
theorem dX10_dry_74 : decode cX10_dry 74 = .ok (.astore 4, 2) := by decide +kernel
theorem dX10_dry_76 : decode cX10_dry 76 = .ok (.aload 4, 2) := by decide +kernel
theorem dX10_dry_78 : decode cX10_dry 78 = .ok (.invokeinterface 114 1, 5) := by decide +kernel
theorem dX10_dry_83 : decode cX10_dry 83 = .ok (.ifCond .eq 24, 3) := by decide +kernel
theorem dX10_dry_86 : decode cX10_dry 86 = .ok (.aload 4, 2) := by decide +kernel
theorem dX10_dry_88 : decode cX10_dry 88 = .ok (.invokeinterface 120 1, 5) := by decide +kernel
theorem dX10_dry_93 : decode cX10_dry 93 = .ok (.checkcast 99, 3) := by decide +kernel
theorem dX10_dry_96 : decode cX10_dry 96 = .ok (.astore 5, 2) := by decide +kernel
theorem dX10_dry_98 : decode cX10_dry 98 = .ok (.aload 5, 2) := by decide +kernel
theorem dX10_dry_100 : decode cX10_dry 100 = .ok (.iload_n 2, 1) := by decide +kernel
theorem dX10_dry_101 : decode cX10_dry 101 = .ok (.invokevirtual 134, 3) := by decide +kernel
theorem dX10_dry_104 : decode cX10_dry 104 = .ok (.goto (-28), 3) := by decide +kernel
theorem dX10_dry_107 : decode cX10_dry 107 = .ok (.iinc 3 1, 3) := by decide +kernel
theorem dX10_dry_110 : decode cX10_dry 110 = .ok (.goto (-48), 3) := by decide +kernel
theorem dX10_dry_113 : decode cX10_dry 113 = .ok (.aload_n 0, 1) := by decide +kernel
theorem dX10_dry_114 : decode cX10_dry 114 = .ok (.dup, 1) := by decide +kernel
theorem dX10_dry_115 : decode cX10_dry 115 = .ok (.getfield 131, 3) := by decide +kernel
theorem dX10_dry_118 : decode cX10_dry 118 = .ok (.iload_n 1, 1) := by decide +kernel
theorem dX10_dry_119 : decode cX10_dry 119 = .ok (.iadd, 1) := by decide +kernel
theorem dX10_dry_120 : decode cX10_dry 120 = .ok (.putfield 131, 3) := by decide +kernel
theorem dX10_dry_123 : decode cX10_dry 123 = .ok (.aload_n 0, 1) := by decide +kernel
theorem dX10_dry_124 : decode cX10_dry 124 = .ok (.iconst 1, 1) := by decide +kernel
theorem dX10_dry_125 : decode cX10_dry 125 = .ok (.invokevirtual 137, 3) := by decide +kernel
theorem dX10_dry_128 : decode cX10_dry 128 = .ok (.ireturn, 1) := by decide +kernel
theorem dX10_dip_0 : decode cX10_dip 0 = .ok (.aload_n 0, 1) := by decide +kernel
theorem dX10_dip_1 : decode cX10_dip 1 = .ok (.aload_n 0, 1) := by decide +kernel
theorem dX10_dip_2 : decode cX10_dip 2 = .ok (.iload_n 1, 1) := by decide +kernel
theorem dX10_dip_3 : decode cX10_dip 3 = .ok (.invokevirtual 104, 3) := by decide +kernel
theorem dX10_dip_6 : decode cX10_dip 6 = .ok (.ifCond .ne 11, 3) := by decide +kernel
theorem dX10_dip_9 : decode cX10_dip 9 = .ok (.aload_n 0, 1) := by decide +kernel
theorem dX10_dip_10 : decode cX10_dip 10 = .ok (.iload_n 2, 1) := by decide +kernel
theorem dX10_dip_11 : decode cX10_dip 11 = .ok (.invokevirtual 141, 3) := by decide +kernel
theorem dX10_dip_14 : decode cX10_dip 14 = .ok (.ifCond .eq 7, 3) := by decide +kernel
theorem dX10_dip_17 : decode cX10_dip 17 = .ok (.iconst 1, 1) := by decide +kernel
theorem dX10_dip_18 : decode cX10_dip 18 = .ok (.goto 4, 3) := by decide +kernel
theorem dX10_dip_21 : decode cX10_dip 21 = .ok (.iconst 0, 1) := by decide +kernel
theorem dX10_dip_22 : decode cX10_dip 22 = .ok (.iconst 1, 1) := by decide +kernel
theorem dX10_dip_23 : decode cX10_dip 23 = .ok (.invokevirtual 88, 3) := by decide +kernel
theorem dX10_dip_26 : decode cX10_dip 26 = .ok (.ifCond .ne 34, 3) := by decide +kernel
theorem dX10_dip_29 : decode cX10_dip 29 = .ok (.aload_n 0, 1) := by decide +kernel
theorem dX10_dip_30 : decode cX10_dip 30 = .ok (.aload_n 0, 1) := by decide +kernel
theorem dX10_dip_31 : decode cX10_dip 31 = .ok (.getfield 19, 3) := by decide +kernel
theorem dX10_dip_34 : decode cX10_dip 34 = .ok (.iload_n 1, 1) := by decide +kernel
theorem dX10_dip_35 : decode cX10_dip 35 = .ok (.invokevirtual 58, 3) := by decide +kernel
theorem dX10_dip_38 : decode cX10_dip 38 = .ok (.checkcast 99, 3) := by decide +kernel
theorem dX10_dip_41 : decode cX10_dip 41 = .ok (.getfield 124, 3) := by decide +kernel
theorem dX10_dip_44 : decode cX10_dip 44 = .ok (.iconst 2, 1) := by decide +kernel
theorem dX10_dip_45 : decode cX10_dip 45 = .ok (.if_icmp .eq 7, 3) := by decide +kernel
theorem dX10_dip_48 : decode cX10_dip 48 = .ok (.iconst 1, 1) := by decide +kernel
theorem dX10_dip_49 : decode cX10_dip 49 = .ok (.goto 4, 3) := by decide +kernel
theorem dX10_dip_52 : decode cX10_dip 52 = .ok (.iconst 0, 1) := by decide +kernel
theorem dX10_dip_53 : decode cX10_dip 53 = .ok (.iconst 2, 1) := by decide +kernel
theorem dX10_dip_54 : decode cX10_dip 54 = .ok (.invokevirtual 36, 3) := by decide +kernel
theorem dX10_dip_57 : decode cX10_dip 57 = .ok (.ifCond .eq 5, 3) := by decide +kernel
theorem dX10_dip_60 : decode cX10_dip 60 = .ok (.iconst 0, 1) := by decide +kernel
theorem dX10_dip_61 : decode cX10_dip 61 = .ok (.ireturn, 1) := by decide +kernel
theorem dX10_dip_62 : decode cX10_dip 62 = .ok (.aload_n 0, 1) := by decide +kernel
theorem dX10_dip_63 : decode cX10_dip 63 = .ok (.getfield 19, 3) := by decide +kernel
theorem dX10_dip_66 : decode cX10_dip 66 = .ok (.iload_n 1, 1) := by decide +kernel
theorem dX10_dip_67 : decode cX10_dip 67 = .ok (.invokevirtual 58, 3) := by decide +kernel
theorem dX10_dip_70 : decode cX10_dip 70 = .ok (.checkcast 99, 3) := by decide +kernel
theorem dX10_dip_73 : decode cX10_dip 73 = .ok (.iconst 3, 1) := by decide +kernel
theorem dX10_dip_74 : decode cX10_dip 74 = .ok (.putfield 124, 3) := by decide +kernel
theorem dX10_dip_77 : decode cX10_dip 77 = .ok (.aload_n 0, 1) := by decide +kernel
theorem dX10_dip_78 : decode cX10_dip 78 = .ok (.getfield 19, 3) := by decide +kernel
theorem dX10_dip_81 : decode cX10_dip 81 = .ok (.iload_n 1, 1) := by decide +kernel
theorem dX10_dip_82 : decode cX10_dip 82 = .ok (.invokevirtual 58, 3) := by decide +kernel
theorem dX10_dip_85 : decode cX10_dip 85 = .ok (.checkcast 99, 3) := by decide +kernel
theorem dX10_dip_88 : decode cX10_dip 88 = .ok (.iload_n 2, 1) := by decide +kernel
theorem dX10_dip_89 : decode cX10_dip 89 = .ok (.putfield 144, 3) := by decide +kernel
theorem dX10_dip_92 : decode cX10_dip 92 = .ok (.aload_n 0, 1) := by decide +kernel
theorem dX10_dip_93 : decode cX10_dip 93 = .ok (.iload_n 2, 1) := by decide +kernel
theorem dX10_dip_94 : decode cX10_dip 94 = .ok (.invokevirtual 147, 3) := by decide +kernel
theorem dX10_dip_97 : decode cX10_dip 97 = .ok (.ireturn, 1) := by decide +kernel
theorem dX10_isTaken_0 : decode cX10_isTaken 0 = .ok (.aload_n 0, 1) := by decide +kernel
theorem dX10_isTaken_1 : decode cX10_isTaken 1 = .ok (.getfield 19, 3) := by decide +kernel
theorem dX10_isTaken_4 : decode cX10_isTaken 4 = .ok (.invokevirtual 110, 3) := by decide +kernel
theorem dX10_isTaken_7 : decode cX10_isTaken 7 = .ok (.astore_n 3, 1) := by decide +kernel
theorem dX10_isTaken_8 : decode cX10_isTaken 8 = .ok (.aload_n 3, 1) := by decide +kernel
theorem dX10_isTaken_9 : decode cX10_isTaken 9 = .ok (.invokeinterface 114 1, 5) := by decide +kernel
theorem dX10_isTaken_14 : decode cX10_isTaken 14 = .ok (.ifCond .eq 53, 3) := by decide +kernel
theorem dX10_isTaken_17 : decode cX10_isTaken 17 = .ok (.aload_n 3, 1) := by decide +kernel
theorem dX10_isTaken_18 : decode cX10_isTaken 18 = .ok (.invokeinterface 120 1, 5) := by decide +kernel
theorem dX10_isTaken_23 : decode cX10_isTaken 23 = .ok (.checkcast 99, 3) := by decide +kernel
theorem dX10_isTaken_26 : decode cX10_isTaken 26 = .ok (.astore 4, 2) := by decide +kernel
theorem dX10_isTaken_28 : decode cX10_isTaken 28 = .ok (.aload 4, 2) := by decide +kernel
theorem dX10_isTaken_30 : decode cX10_isTaken 30 = .ok (.getfield 150, 3) := by decide +kernel
theorem dX10_isTaken_33 : decode cX10_isTaken 33 = .ok (.iload_n 1, 1) := by decide +kernel
theorem dX10_isTaken_34 : decode cX10_isTaken 34 = .ok (.if_icmp .ne 30, 3) := by decide +kernel
theorem dX10_isTaken_37 : decode cX10_isTaken 37 = .ok (.iload_n 2, 1) := by decide +kernel
theorem dX10_isTaken_38 : decode cX10_isTaken 38 = .ok (.aload 4, 2) := by decide +kernel
theorem dX10_isTaken_40 : decode cX10_isTaken 40 = .ok (.getfield 153, 3) := by decide +kernel
theorem dX10_isTaken_43 : decode cX10_isTaken 43 = .ok (.aload 4, 2) := by decide +kernel
theorem dX10_isTaken_45 : decode cX10_isTaken 45 = .ok (.getfield 153, 3) := by decide +kernel
theorem dX10_isTaken_48 : decode cX10_isTaken 48 = .ok (.aload 4, 2) := by decide +kernel
theorem dX10_isTaken_50 : decode cX10_isTaken 50 = .ok (.getfield 156, 3) := by decide +kernel
theorem dX10_isTaken_53 : decode cX10_isTaken 53 = .ok (.iadd, 1) := by decide +kernel
theorem dX10_isTaken_54 : decode cX10_isTaken 54 = .ok (.iconst 1, 1) := by decide +kernel
theorem dX10_isTaken_55 : decode cX10_isTaken 55 = .ok (.isub, 1) := by decide +kernel
theorem dX10_isTaken_56 : decode cX10_isTaken 56 = .ok (.invokestatic 44, 3) := by decide +kernel
theorem dX10_isTaken_59 : decode cX10_isTaken 59 = .ok (.ifCond .eq 5, 3) := by decide +kernel
theorem dX10_isTaken_62 : decode cX10_isTaken 62 = .ok (.iconst 1, 1) := by decide +kernel
theorem dX10_isTaken_63 : decode cX10_isTaken 63 = .ok (.ireturn, 1) := by decide +kernel
theorem dX10_isTaken_64 : decode cX10_isTaken 64 = .ok (.goto (-56), 3) := by decide +kernel
theorem dX10_isTaken_67 : decode cX10_isTaken 67 = .ok (.iconst 0, 1) := by decide +kernel
theorem dX10_isTaken_68 : decode cX10_isTaken 68 = .ok (.ireturn, 1) := by decide +kernel
theorem dX10_free_0 : decode cX10_free 0 = .ok (.iconst 0, 1) := by decide +kernel
theorem dX10_free_1 : decode cX10_free 1 = .ok (.istore_n 2, 1) := by decide +kernel
theorem dX10_free_2 : decode cX10_free 2 = .ok (.iconst 0, 1) := by decide +kernel
theorem dX10_free_3 : decode cX10_free 3 = .ok (.istore_n 3, 1) := by decide +kernel
theorem dX10_free_4 : decode cX10_free 4 = .ok (.iload_n 3, 1) := by decide +kernel
theorem dX10_free_5 : decode cX10_free 5 = .ok (.bipush 10, 2) := by decide +kernel
theorem dX10_free_7 : decode cX10_free 7 = .ok (.if_icmp .ge 29, 3) := by decide +kernel
theorem dX10_free_10 : decode cX10_free 10 = .ok (.iload_n 2, 1) := by decide +kernel
theorem dX10_free_11 : decode cX10_free 11 = .ok (.aload_n 0, 1) := by decide +kernel
theorem dX10_free_12 : decode cX10_free 12 = .ok (.iload_n 1, 1) := by decide +kernel
theorem dX10_free_13 : decode cX10_free 13 = .ok (.iload_n 3, 1) := by decide +kernel
theorem dX10_free_14 : decode cX10_free 14 = .ok (.invokevirtual 159, 3) := by decide +kernel
theorem dX10_free_17 : decode cX10_free 17 = .ok (.ifCond .ne 7, 3) := by decide +kernel
theorem dX10_free_20 : decode cX10_free 20 = .ok (.iconst 1, 1) := by decide +kernel
theorem dX10_free_21 : decode cX10_free 21 = .ok (.goto 4, 3) := by decide +kernel
theorem dX10_free_24 : decode cX10_free 24 = .ok (.iconst 0, 1) := by decide +kernel
theorem dX10_free_25 : decode cX10_free 25 = .ok (.invokestatic 127, 3) := by decide +kernel
theorem dX10_free_28 : decode cX10_free 28 = .ok (.iadd, 1) := by decide +kernel
theorem dX10_free_29 : decode cX10_free 29 = .ok (.istore_n 2, 1) := by decide +kernel
theorem dX10_free_30 : decode cX10_free 30 = .ok (.iinc 3 1, 3) := by decide +kernel
theorem dX10_free_33 : decode cX10_free 33 = .ok (.goto (-29), 3) := by decide +kernel
theorem dX10_free_36 : decode cX10_free 36 = .ok (.iload_n 2, 1) := by decide +kernel
theorem dX10_free_37 : decode cX10_free 37 = .ok (.ireturn, 1) := by decide +kernel
theorem dX10_row_0 : decode cX10_row 0 = .ok (.iconst 0, 1) := by decide +kernel
theorem dX10_row_1 : decode cX10_row 1 = .ok (.istore_n 2, 1) := by decide +kernel
theorem dX10_row_2 : decode cX10_row 2 = .ok (.iconst 0, 1) := by decide +kernel
theorem dX10_row_3 : decode cX10_row 3 = .ok (.istore_n 3, 1) := by decide +kernel
theorem dX10_row_4 : decode cX10_row 4 = .ok (.iconst 0, 1) := by decide +kernel
theorem dX10_row_5 : decode cX10_row 5 = .ok (.istore 4, 2) := by decide +kernel
theorem dX10_row_7 : decode cX10_row 7 = .ok (.iload 4, 2) := by decide +kernel
theorem dX10_row_9 : decode cX10_row 9 = .ok (.bipush 10, 2) := by decide +kernel
theorem dX10_row_11 : decode cX10_row 11 = .ok (.if_icmp .ge 33, 3) := by decide +kernel
theorem dX10_row_14 : decode cX10_row 14 = .ok (.aload_n 0, 1) := by decide +kernel
theorem dX10_row_15 : decode cX10_row 15 = .ok (.iload_n 1, 1) := by decide +kernel
theorem dX10_row_16 : decode cX10_row 16 = .ok (.iload 4, 2) := by decide +kernel
theorem dX10_row_18 : decode cX10_row 18 = .ok (.invokevirtual 159, 3) := by decide +kernel
theorem dX10_row_21 : decode cX10_row 21 = .ok (.ifCond .eq 7, 3) := by decide +kernel
theorem dX10_row_24 : decode cX10_row 24 = .ok (.iconst 0, 1) := by decide +kernel
theorem dX10_row_25 : decode cX10_row 25 = .ok (.goto 6, 3) := by decide +kernel
theorem dX10_row_28 : decode cX10_row 28 = .ok (.iload_n 3, 1) := by decide +kernel
theorem dX10_row_29 : decode cX10_row 29 = .ok (.iconst 1, 1) := by decide +kernel
theorem dX10_row_30 : decode cX10_row 30 = .ok (.iadd, 1) := by decide +kernel
theorem dX10_row_31 : decode cX10_row 31 = .ok (.istore_n 3, 1) := by decide +kernel
theorem dX10_row_32 : decode cX10_row 32 = .ok (.iload_n 2, 1) := by decide +kernel
theorem dX10_row_33 : decode cX10_row 33 = .ok (.iload_n 3, 1) := by decide +kernel
theorem dX10_row_34 : decode cX10_row 34 = .ok (.invokestatic 163, 3) := by decide +kernel
theorem dX10_row_37 : decode cX10_row 37 = .ok (.istore_n 2, 1) := by decide +kernel
theorem dX10_row_38 : decode cX10_row 38 = .ok (.iinc 4 1, 3) := by decide +kernel
theorem dX10_row_41 : decode cX10_row 41 = .ok (.goto (-34), 3) := by decide +kernel
theorem dX10_row_44 : decode cX10_row 44 = .ok (.iload_n 2, 1) := by decide +kernel
theorem dX10_row_45 : decode cX10_row 45 = .ok (.ireturn, 1) := by decide +kernel
theorem dX10_high_0 : decode cX10_high 0 = .ok (.iload_n 0, 1) := by decide +kernel
theorem dX10_high_1 : decode cX10_high 1 = .ok (.iconst 2, 1) := by decide +kernel
theorem dX10_high_2 : decode cX10_high 2 = .ok (.if_icmp .ne 7, 3) := by decide +kernel
theorem dX10_high_5 : decode cX10_high 5 = .ok (.iconst 2, 1) := by decide +kernel
theorem dX10_high_6 : decode cX10_high 6 = .ok (.goto 4, 3) := by decide +kernel
theorem dX10_high_9 : decode cX10_high 9 = .ok (.iconst 3, 1) := by decide +kernel
theorem dX10_high_10 : decode cX10_high 10 = .ok (.ireturn, 1) := by decide +kernel
theorem dX10_set_0 : decode cX10_set 0 = .ok (.aload_n 0, 1) := by decide +kernel
theorem dX10_set_1 : decode cX10_set 1 = .ok (.aload_n 0, 1) := by decide +kernel
theorem dX10_set_2 : decode cX10_set 2 = .ok (.iload_n 1, 1) := by decide +kernel
theorem dX10_set_3 : decode cX10_set 3 = .ok (.invokevirtual 104, 3) := by decide +kernel
theorem dX10_set_6 : decode cX10_set 6 = .ok (.ifCond .ne 20, 3) := by decide +kernel
theorem dX10_set_9 : decode cX10_set 9 = .ok (.iload_n 2, 1) := by decide +kernel
theorem dX10_set_10 : decode cX10_set 10 = .ok (.invokestatic 167, 3) := by decide +kernel
theorem dX10_set_13 : decode cX10_set 13 = .ok (.ifCond .ne 13, 3) := by decide +kernel
theorem dX10_set_16 : decode cX10_set 16 = .ok (.iload_n 3, 1) := by decide +kernel
theorem dX10_set_17 : decode cX10_set 17 = .ok (.iconst 0, 1) := by decide +kernel
theorem dX10_set_18 : decode cX10_set 18 = .ok (.bipush 9, 2) := by decide +kernel
theorem dX10_set_20 : decode cX10_set 20 = .ok (.invokestatic 44, 3) := by decide +kernel
theorem dX10_set_23 : decode cX10_set 23 = .ok (.ifCond .ne 7, 3) := by decide +kernel
theorem dX10_set_26 : decode cX10_set 26 = .ok (.iconst 1, 1) := by decide +kernel
theorem dX10_set_27 : decode cX10_set 27 = .ok (.goto 4, 3) := by decide +kernel
theorem dX10_set_30 : decode cX10_set 30 = .ok (.iconst 0, 1) := by decide +kernel
theorem dX10_set_31 : decode cX10_set 31 = .ok (.iconst 1, 1) := by decide +kernel
theorem dX10_set_32 : decode cX10_set 32 = .ok (.invokevirtual 88, 3) := by decide +kernel
theorem dX10_set_35 : decode cX10_set 35 = .ok (.ifCond .eq 5, 3) := by decide +kernel
theorem dX10_set_38 : decode cX10_set 38 = .ok (.iconst 0, 1) := by decide +kernel
theorem dX10_set_39 : decode cX10_set 39 = .ok (.ireturn, 1) := by decide +kernel
theorem dX10_set_40 : decode cX10_set 40 = .ok (.aload_n 0, 1) := by decide +kernel
theorem dX10_set_41 : decode cX10_set 41 = .ok (.getfield 19, 3) := by decide +kernel
theorem dX10_set_44 : decode cX10_set 44 = .ok (.iload_n 1, 1) := by decide +kernel
theorem dX10_set_45 : decode cX10_set 45 = .ok (.invokevirtual 58, 3) := by decide +kernel
theorem dX10_set_48 : decode cX10_set 48 = .ok (.checkcast 99, 3) := by decide +kernel
theorem dX10_set_51 : decode cX10_set 51 = .ok (.astore 4, 2) := by decide +kernel
theorem dX10_set_53 : decode cX10_set 53 = .ok (.aload_n 0, 1) := by decide +kernel
theorem dX10_set_54 : decode cX10_set 54 = .ok (.invokevirtual 170, 3) := by decide +kernel
theorem dX10_set_57 : decode cX10_set 57 = .ok (.ifCond .ne 62, 3) := by decide +kernel
theorem dX10_set_60 : decode cX10_set 60 = .ok (.aload 4, 2) := by decide +kernel
theorem dX10_set_62 : decode cX10_set 62 = .ok (.getfield 124, 3) := by decide +kernel
theorem dX10_set_65 : decode cX10_set 65 = .ok (.ifCond .eq 21, 3) := by decide +kernel
theorem dX10_set_68 : decode cX10_set 68 = .ok (.aload 4, 2) := by decide +kernel
theorem dX10_set_70 : decode cX10_set 70 = .ok (.getfield 124, 3) := by decide +kernel
theorem dX10_set_73 : decode cX10_set 73 = .ok (.iconst 1, 1) := by decide +kernel
theorem dX10_set_74 : decode cX10_set 74 = .ok (.if_icmp .eq 12, 3) := by decide +kernel
theorem dX10_set_77 : decode cX10_set 77 = .ok (.aload 4, 2) := by decide +kernel
theorem dX10_set_79 : decode cX10_set 79 = .ok (.getfield 124, 3) := by decide +kernel
theorem dX10_set_82 : decode cX10_set 82 = .ok (.iconst 3, 1) := by decide +kernel
theorem dX10_set_83 : decode cX10_set 83 = .ok (.if_icmp .ne 36, 3) := by decide +kernel
theorem dX10_set_86 : decode cX10_set 86 = .ok (.aload 4, 2) := by decide +kernel
theorem dX10_set_88 : decode cX10_set 88 = .ok (.getfield 150, 3) := by decide +kernel
theorem dX10_set_91 : decode cX10_set 91 = .ok (.iconst (-1), 1) := by decide +kernel
theorem dX10_set_92 : decode cX10_set 92 = .ok (.if_icmp .ne 27, 3) := by decide +kernel
theorem dX10_set_95 : decode cX10_set 95 = .ok (.aload 4, 2) := by decide +kernel
theorem dX10_set_97 : decode cX10_set 97 = .ok (.getfield 173, 3) := by decide +kernel
theorem dX10_set_100 : decode cX10_set 100 = .ok (.iload_n 2, 1) := by decide +kernel
theorem dX10_set_101 : decode cX10_set 101 = .ok (.invokestatic 176, 3) := by decide +kernel
theorem dX10_set_104 : decode cX10_set 104 = .ok (.if_icmp .gt 15, 3) := by decide +kernel
theorem dX10_set_107 : decode cX10_set 107 = .ok (.iload_n 3, 1) := by decide +kernel
theorem dX10_set_108 : decode cX10_set 108 = .ok (.aload 4, 2) := by decide +kernel
theorem dX10_set_110 : decode cX10_set 110 = .ok (.getfield 156, 3) := by decide +kernel
theorem dX10_set_113 : decode cX10_set 113 = .ok (.iadd, 1) := by decide +kernel
theorem dX10_set_114 : decode cX10_set 114 = .ok (.bipush 10, 2) := by decide +kernel
theorem dX10_set_116 : decode cX10_set 116 = .ok (.if_icmp .le 7, 3) := by decide +kernel
theorem dX10_set_119 : decode cX10_set 119 = .ok (.iconst 1, 1) := by decide +kernel
theorem dX10_set_120 : decode cX10_set 120 = .ok (.goto 4, 3) := by decide +kernel
theorem dX10_set_123 : decode cX10_set 123 = .ok (.iconst 0, 1) := by decide +kernel
theorem dX10_set_124 : decode cX10_set 124 = .ok (.istore 5, 2) := by decide +kernel
theorem dX10_set_126 : decode cX10_set 126 = .ok (.iconst 0, 1) := by decide +kernel
theorem dX10_set_127 : decode cX10_set 127 = .ok (.istore 6, 2) := by decide +kernel
theorem dX10_set_129 : decode cX10_set 129 = .ok (.iload 6, 2) := by decide +kernel
theorem dX10_set_131 : decode cX10_set 131 = .ok (.aload 4, 2) := by decide +kernel
theorem dX10_set_133 : decode cX10_set 133 = .ok (.getfield 156, 3) := by decide +kernel
theorem dX10_set_136 : decode cX10_set 136 = .ok (.if_icmp .ge 25, 3) := by decide +kernel
theorem dX10_set_139 : decode cX10_set 139 = .ok (.iload 5, 2) := by decide +kernel
theorem dX10_set_141 : decode cX10_set 141 = .ok (.ifCond .ne 20, 3) := by decide +kernel
theorem dX10_set_144 : decode cX10_set 144 = .ok (.aload_n 0, 1) := by decide +kernel
theorem dX10_set_145 : decode cX10_set 145 = .ok (.iload_n 2, 1) := by decide +kernel
theorem dX10_set_146 : decode cX10_set 146 = .ok (.iload_n 3, 1) := by decide +kernel
theorem dX10_set_147 : decode cX10_set 147 = .ok (.iload 6, 2) := by decide +kernel
theorem dX10_set_149 : decode cX10_set 149 = .ok (.iadd, 1) := by decide +kernel
theorem dX10_set_150 : decode cX10_set 150 = .ok (.invokevirtual 159, 3) := by decide +kernel
theorem dX10_set_153 : decode cX10_set 153 = .ok (.istore 5, 2) := by decide +kernel
theorem dX10_set_155 : decode cX10_set 155 = .ok (.iinc 6 1, 3) := by decide +kernel
theorem dX10_set_158 : decode cX10_set 158 = .ok (.goto (-29), 3) := by decide +kernel
theorem dX10_set_161 : decode cX10_set 161 = .ok (.aload_n 0, 1) := by decide +kernel
theorem dX10_set_162 : decode cX10_set 162 = .ok (.iload 5, 2) := by decide +kernel
theorem dX10_set_164 : decode cX10_set 164 = .ok (.iconst 2, 1) := by decide +kernel
theorem dX10_set_165 : decode cX10_set 165 = .ok (.invokevirtual 36, 3) := by decide +kernel
theorem dX10_set_168 : decode cX10_set 168 = .ok (.ifCond .eq 5, 3) := by decide +kernel
theorem dX10_set_171 : decode cX10_set 171 = .ok (.iconst 0, 1) := by decide +kernel
theorem dX10_set_172 : decode cX10_set 172 = .ok (.ireturn, 1) := by decide +kernel
theorem dX10_set_173 : decode cX10_set 173 = .ok (.aload 4, 2) := by decide +kernel
theorem dX10_set_175 : decode cX10_set 175 = .ok (.iload_n 2, 1) := by decide +kernel
theorem dX10_set_176 : decode cX10_set 176 = .ok (.putfield 150, 3) := by decide +kernel
theorem dX10_set_179 : decode cX10_set 179 = .ok (.aload 4, 2) := by decide +kernel
theorem dX10_set_181 : decode cX10_set 181 = .ok (.iload_n 3, 1) := by decide +kernel
theorem dX10_set_182 : decode cX10_set 182 = .ok (.putfield 153, 3) := by decide +kernel
theorem dX10_set_185 : decode cX10_set 185 = .ok (.aload_n 0, 1) := by decide +kernel
theorem dX10_set_186 : decode cX10_set 186 = .ok (.iload_n 2, 1) := by decide +kernel
theorem dX10_set_187 : decode cX10_set 187 = .ok (.invokevirtual 179, 3) := by decide +kernel
theorem dX10_set_190 : decode cX10_set 190 = .ok (.ireturn, 1) := by decide +kernel
theorem dX10_leave_0 : decode cX10_leave 0 = .ok (.aload_n 0, 1) := by decide +kernel
theorem dX10_leave_1 : decode cX10_leave 1 = .ok (.iconst (-1), 1) := by decide +kernel
theorem dX10_leave_2 : decode cX10_leave 2 = .ok (.putfield 150, 3) := by decide +kernel
theorem dX10_leave_5 : decode cX10_leave 5 = .ok (.aload_n 0, 1) := by decide +kernel
theorem dX10_leave_6 : decode cX10_leave 6 = .ok (.iconst (-1), 1) := by decide +kernel
theorem dX10_leave_7 : decode cX10_leave 7 = .ok (.putfield 153, 3) := by decide +kernel
theorem dX10_leave_10 : decode cX10_leave 10 = .ok (.return_, 1) := by decide +kernel
theorem dX10_take_0 : decode cX10_take 0 = .ok (.aload_n 0, 1) := by decide +kernel
theorem dX10_take_1 : decode cX10_take 1 = .ok (.aload_n 0, 1) := by decide +kernel
theorem dX10_take_2 : decode cX10_take 2 = .ok (.iload_n 1, 1) := by decide +kernel
theorem dX10_take_3 : decode cX10_take 3 = .ok (.invokevirtual 104, 3) := by decide +kernel
theorem dX10_take_6 : decode cX10_take 6 = .ok (.iconst 1, 1) := by decide +kernel
theorem dX10_take_7 : decode cX10_take 7 = .ok (.invokevirtual 88, 3) := by decide +kernel
theorem dX10_take_10 : decode cX10_take 10 = .ok (.ifCond .ne 41, 3) := by decide +kernel
theorem dX10_take_13 : decode cX10_take 13 = .ok (.aload_n 0, 1) := by decide +kernel
theorem dX10_take_14 : decode cX10_take 14 = .ok (.aload_n 0, 1) := by decide +kernel
theorem dX10_take_15 : decode cX10_take 15 = .ok (.invokevirtual 170, 3) := by decide +kernel
theorem dX10_take_18 : decode cX10_take 18 = .ok (.ifCond .ne 21, 3) := by decide +kernel
theorem dX10_take_21 : decode cX10_take 21 = .ok (.aload_n 0, 1) := by decide +kernel
theorem dX10_take_22 : decode cX10_take 22 = .ok (.getfield 19, 3) := by decide +kernel
theorem dX10_take_25 : decode cX10_take 25 = .ok (.iload_n 1, 1) := by decide +kernel
theorem dX10_take_26 : decode cX10_take 26 = .ok (.invokevirtual 58, 3) := by decide +kernel
theorem dX10_take_29 : decode cX10_take 29 = .ok (.checkcast 99, 3) := by decide +kernel
theorem dX10_take_32 : decode cX10_take 32 = .ok (.getfield 150, 3) := by decide +kernel
theorem dX10_take_35 : decode cX10_take 35 = .ok (.iconst (-1), 1) := by decide +kernel
theorem dX10_take_36 : decode cX10_take 36 = .ok (.if_icmp .ne 7, 3) := by decide +kernel
theorem dX10_take_39 : decode cX10_take 39 = .ok (.iconst 1, 1) := by decide +kernel
theorem dX10_take_40 : decode cX10_take 40 = .ok (.goto 4, 3) := by decide +kernel
theorem dX10_take_43 : decode cX10_take 43 = .ok (.iconst 0, 1) := by decide +kernel
theorem dX10_take_44 : decode cX10_take 44 = .ok (.iconst 2, 1) := by decide +kernel
theorem dX10_take_45 : decode cX10_take 45 = .ok (.invokevirtual 36, 3) := by decide +kernel
theorem dX10_take_48 : decode cX10_take 48 = .ok (.ifCond .eq 5, 3) := by decide +kernel
theorem dX10_take_51 : decode cX10_take 51 = .ok (.iconst 0, 1) := by decide +kernel
theorem dX10_take_52 : decode cX10_take 52 = .ok (.ireturn, 1) := by decide +kernel
theorem dX10_take_53 : decode cX10_take 53 = .ok (.aload_n 0, 1) := by decide +kernel
theorem dX10_take_54 : decode cX10_take 54 = .ok (.getfield 19, 3) := by decide +kernel
theorem dX10_take_57 : decode cX10_take 57 = .ok (.iload_n 1, 1) := by decide +kernel
theorem dX10_take_58 : decode cX10_take 58 = .ok (.invokevirtual 58, 3) := by decide +kernel
theorem dX10_take_61 : decode cX10_take 61 = .ok (.checkcast 99, 3) := by decide +kernel
theorem dX10_take_64 : decode cX10_take 64 = .ok (.getfield 150, 3) := by decide +kernel
theorem dX10_take_67 : decode cX10_take 67 = .ok (.istore_n 2, 1) := by decide +kernel
theorem dX10_take_68 : decode cX10_take 68 = .ok (.aload_n 0, 1) := by decide +kernel
theorem dX10_take_69 : decode cX10_take 69 = .ok (.getfield 19, 3) := by decide +kernel
theorem dX10_take_72 : decode cX10_take 72 = .ok (.iload_n 1, 1) := by decide +kernel
theorem dX10_take_73 : decode cX10_take 73 = .ok (.invokevirtual 58, 3) := by decide +kernel
theorem dX10_take_76 : decode cX10_take 76 = .ok (.checkcast 99, 3) := by decide +kernel
theorem dX10_take_79 : decode cX10_take 79 = .ok (.invokestatic 182, 3) := by decide +kernel
theorem dX10_take_82 : decode cX10_take 82 = .ok (.iload_n 2, 1) := by decide +kernel
theorem dX10_take_83 : decode cX10_take 83 = .ok (.ireturn, 1) := by decide +kernel
theorem dX10_ramp_0 : decode cX10_ramp 0 = .ok (.aload_n 0, 1) := by decide +kernel
theorem dX10_ramp_1 : decode cX10_ramp 1 = .ok (.iload_n 1, 1) := by decide +kernel
theorem dX10_ramp_2 : decode cX10_ramp 2 = .ok (.bipush 10, 2) := by decide +kernel
theorem dX10_ramp_4 : decode cX10_ramp 4 = .ok (.sipush 200, 3) := by decide +kernel
theorem dX10_ramp_7 : decode cX10_ramp 7 = .ok (.invokestatic 44, 3) := by decide +kernel
theorem dX10_ramp_10 : decode cX10_ramp 10 = .ok (.ifCond .eq 25, 3) := by decide +kernel
theorem dX10_ramp_13 : decode cX10_ramp 13 = .ok (.iload_n 2, 1) := by decide +kernel
theorem dX10_ramp_14 : decode cX10_ramp 14 = .ok (.bipush 100, 2) := by decide +kernel
theorem dX10_ramp_16 : decode cX10_ramp 16 = .ok (.sipush 1400, 3) := by decide +kernel
theorem dX10_ramp_19 : decode cX10_ramp 19 = .ok (.invokestatic 44, 3) := by decide +kernel
theorem dX10_ramp_22 : decode cX10_ramp 22 = .ok (.ifCond .eq 13, 3) := by decide +kernel
theorem dX10_ramp_25 : decode cX10_ramp 25 = .ok (.iload_n 3, 1) := by decide +kernel
theorem dX10_ramp_26 : decode cX10_ramp 26 = .ok (.iconst 0, 1) := by decide +kernel
theorem dX10_ramp_27 : decode cX10_ramp 27 = .ok (.bipush 20, 2) := by decide +kernel
theorem dX10_ramp_29 : decode cX10_ramp 29 = .ok (.invokestatic 44, 3) := by decide +kernel
theorem dX10_ramp_32 : decode cX10_ramp 32 = .ok (.ifCond .ne 7, 3) := by decide +kernel
theorem dX10_ramp_35 : decode cX10_ramp 35 = .ok (.iconst 1, 1) := by decide +kernel
theorem dX10_ramp_36 : decode cX10_ramp 36 = .ok (.goto 4, 3) := by decide +kernel
theorem dX10_ramp_39 : decode cX10_ramp 39 = .ok (.iconst 0, 1) := by decide +kernel
theorem dX10_ramp_40 : decode cX10_ramp 40 = .ok (.iconst 1, 1) := by decide +kernel
theorem dX10_ramp_41 : decode cX10_ramp 41 = .ok (.invokevirtual 88, 3) := by decide +kernel
theorem dX10_ramp_44 : decode cX10_ramp 44 = .ok (.ifCond .ne 40, 3) := by decide +kernel
theorem dX10_ramp_47 : decode cX10_ramp 47 = .ok (.aload_n 0, 1) := by decide +kernel
theorem dX10_ramp_48 : decode cX10_ramp 48 = .ok (.aload_n 0, 1) := by decide +kernel
theorem dX10_ramp_49 : decode cX10_ramp 49 = .ok (.getfield 28, 3) := by decide +kernel
theorem dX10_ramp_52 : decode cX10_ramp 52 = .ok (.getfield 48, 3) := by decide +kernel
theorem dX10_ramp_55 : decode cX10_ramp 55 = .ok (.ifCond .ne 17, 3) := by decide +kernel
theorem dX10_ramp_58 : decode cX10_ramp 58 = .ok (.aload_n 0, 1) := by decide +kernel
theorem dX10_ramp_59 : decode cX10_ramp 59 = .ok (.getfield 28, 3) := by decide +kernel
theorem dX10_ramp_62 : decode cX10_ramp 62 = .ok (.getfield 186, 3) := by decide +kernel
theorem dX10_ramp_65 : decode cX10_ramp 65 = .ok (.invokevirtual 40, 3) := by decide +kernel
theorem dX10_ramp_68 : decode cX10_ramp 68 = .ok (.iconst 5, 1) := by decide +kernel
theorem dX10_ramp_69 : decode cX10_ramp 69 = .ok (.if_icmp .ne 7, 3) := by decide +kernel
theorem dX10_ramp_72 : decode cX10_ramp 72 = .ok (.iconst 1, 1) := by decide +kernel
theorem dX10_ramp_73 : decode cX10_ramp 73 = .ok (.goto 4, 3) := by decide +kernel
theorem dX10_ramp_76 : decode cX10_ramp 76 = .ok (.iconst 0, 1) := by decide +kernel
theorem dX10_ramp_77 : decode cX10_ramp 77 = .ok (.iconst 2, 1) := by decide +kernel
theorem dX10_ramp_78 : decode cX10_ramp 78 = .ok (.invokevirtual 36, 3) := by decide +kernel
theorem dX10_ramp_81 : decode cX10_ramp 81 = .ok (.ifCond .eq 5, 3) := by decide +kernel
theorem dX10_ramp_84 : decode cX10_ramp 84 = .ok (.iconst 0, 1) := by decide +kernel
theorem dX10_ramp_85 : decode cX10_ramp 85 = .ok (.ireturn, 1) := by decide +kernel
theorem dX10_ramp_86 : decode cX10_ramp 86 = .ok (.aload_n 0, 1) := by decide +kernel
theorem dX10_ramp_87 : decode cX10_ramp 87 = .ok (.getfield 28, 3) := by decide +kernel
theorem dX10_ramp_90 : decode cX10_ramp 90 = .ok (.getfield 186, 3) := by decide +kernel
theorem dX10_ramp_93 : decode cX10_ramp 93 = .ok (.iconst 3, 1) := by decide +kernel
theorem dX10_ramp_94 : decode cX10_ramp 94 = .ok (.newarray .int, 2) := by decide +kernel
theorem dX10_ramp_96 : decode cX10_ramp 96 = .ok (.dup, 1) := by decide +kernel
theorem dX10_ramp_97 : decode cX10_ramp 97 = .ok (.iconst 0, 1) := by decide +kernel
theorem dX10_ramp_98 : decode cX10_ramp 98 = .ok (.iload_n 1, 1) := by decide +kernel
theorem dX10_ramp_99 : decode cX10_ramp 99 = .ok (.iastore, 1) := by decide +kernel
theorem dX10_ramp_100 : decode cX10_ramp 100 = .ok (.dup, 1) := by decide +kernel
theorem dX10_ramp_101 : decode cX10_ramp 101 = .ok (.iconst 1, 1) := by decide +kernel
theorem dX10_ramp_102 : decode cX10_ramp 102 = .ok (.iload_n 2, 1) := by decide +kernel
theorem dX10_ramp_103 : decode cX10_ramp 103 = .ok (.iastore, 1) := by decide +kernel
theorem dX10_ramp_104 : decode cX10_ramp 104 = .ok (.dup, 1) := by decide +kernel
theorem dX10_ramp_105 : decode cX10_ramp 105 = .ok (.iconst 2, 1) := by decide +kernel
theorem dX10_ramp_106 : decode cX10_ramp 106 = .ok (.iload_n 3, 1) := by decide +kernel
theorem dX10_ramp_107 : decode cX10_ramp 107 = .ok (.iastore, 1) := by decide +kernel
theorem dX10_ramp_108 : decode cX10_ramp 108 = .ok (.invokevirtual 91, 3) := by decide +kernel
theorem dX10_ramp_111 : decode cX10_ramp 111 = .ok (.pop, 1) := by decide +kernel
theorem dX10_ramp_112 : decode cX10_ramp 112 = .ok (.aload_n 0, 1) := by decide +kernel
theorem dX10_ramp_113 : decode cX10_ramp 113 = .ok (.getfield 28, 3) := by decide +kernel
theorem dX10_ramp_116 : decode cX10_ramp 116 = .ok (.getfield 186, 3) := by decide +kernel
theorem dX10_ramp_119 : decode cX10_ramp 119 = .ok (.invokevirtual 40, 3) := by decide +kernel
theorem dX10_ramp_122 : decode cX10_ramp 122 = .ok (.iconst 1, 1) := by decide +kernel
theorem dX10_ramp_123 : decode cX10_ramp 123 = .ok (.isub, 1) := by decide +kernel
theorem dX10_ramp_124 : decode cX10_ramp 124 = .ok (.ireturn, 1) := by decide +kernel
theorem dX10_forget_0 : decode cX10_forget 0 = .ok (.aload_n 0, 1) := by decide +kernel
theorem dX10_forget_1 : decode cX10_forget 1 = .ok (.aload_n 0, 1) := by decide +kernel
theorem dX10_forget_2 : decode cX10_forget 2 = .ok (.getfield 28, 3) := by decide +kernel
theorem dX10_forget_5 : decode cX10_forget 5 = .ok (.getfield 48, 3) := by decide +kernel
theorem dX10_forget_8 : decode cX10_forget 8 = .ok (.iconst 1, 1) := by decide +kernel
theorem dX10_forget_9 : decode cX10_forget 9 = .ok (.invokevirtual 88, 3) := by decide +kernel
theorem dX10_forget_12 : decode cX10_forget 12 = .ok (.ifCond .eq 5, 3) := by decide +kernel
theorem dX10_forget_15 : decode cX10_forget 15 = .ok (.iconst 0, 1) := by decide +kernel
theorem dX10_forget_16 : decode cX10_forget 16 = .ok (.ireturn, 1) := by decide +kernel
theorem dX10_forget_17 : decode cX10_forget 17 = .ok (.aload_n 0, 1) := by decide +kernel
theorem dX10_forget_18 : decode cX10_forget 18 = .ok (.getfield 28, 3) := by decide +kernel
theorem dX10_forget_21 : decode cX10_forget 21 = .ok (.getfield 186, 3) := by decide +kernel
theorem dX10_forget_24 : decode cX10_forget 24 = .ok (.invokevirtual 40, 3) := by decide +kernel
theorem dX10_forget_27 : decode cX10_forget 27 = .ok (.istore_n 1, 1) := by decide +kernel
theorem dX10_forget_28 : decode cX10_forget 28 = .ok (.aload_n 0, 1) := by decide +kernel
theorem dX10_forget_29 : decode cX10_forget 29 = .ok (.getfield 28, 3) := by decide +kernel
theorem dX10_forget_32 : decode cX10_forget 32 = .ok (.getfield 186, 3) := by decide +kernel
theorem dX10_forget_35 : decode cX10_forget 35 = .ok (.invokevirtual 189, 3) := by decide +kernel
theorem dX10_forget_38 : decode cX10_forget 38 = .ok (.iload_n 1, 1) := by decide +kernel
theorem dX10_forget_39 : decode cX10_forget 39 = .ok (.ireturn, 1) := by decide +kernel
theorem dX10_placed_0 : decode cX10_placed 0 = .ok (.iconst 0, 1) := by decide +kernel
theorem dX10_placed_1 : decode cX10_placed 1 = .ok (.istore_n 2, 1) := by decide +kernel
theorem dX10_placed_2 : decode cX10_placed 2 = .ok (.aload_n 0, 1) := by decide +kernel
theorem dX10_placed_3 : decode cX10_placed 3 = .ok (.getfield 19, 3) := by decide +kernel
theorem dX10_placed_6 : decode cX10_placed 6 = .ok (.invokevirtual 110, 3) := by decide +kernel
theorem dX10_placed_9 : decode cX10_placed 9 = .ok (.astore_n 3, 1) := by decide +kernel
theorem dX10_placed_10 : decode cX10_placed 10 = .ok (.aload_n 3, 1) := by decide +kernel
theorem dX10_placed_11 : decode cX10_placed 11 = .ok (.invokeinterface 114 1, 5) := by decide +kernel
theorem dX10_placed_16 : decode cX10_placed 16 = .ok (.ifCond .eq 59, 3) := by decide +kernel
theorem dX10_placed_19 : decode cX10_placed 19 = .ok (.aload_n 3, 1) := by decide +kernel
theorem dX10_placed_20 : decode cX10_placed 20 = .ok (.invokeinterface 120 1, 5) := by decide +kernel
theorem dX10_placed_25 : decode cX10_placed 25 = .ok (.checkcast 99, 3) := by decide +kernel
theorem dX10_placed_28 : decode cX10_placed 28 = .ok (.astore 4, 2) := by decide +kernel
theorem dX10_placed_30 : decode cX10_placed 30 = .ok (.iload_n 2, 1) := by decide +kernel
theorem dX10_placed_31 : decode cX10_placed 31 = .ok (.iload_n 1, 1) := by decide +kernel
theorem dX10_placed_32 : decode cX10_placed 32 = .ok (.iconst (-1), 1) := by decide +kernel
theorem dX10_placed_33 : decode cX10_placed 33 = .ok (.if_icmp .ne 20, 3) := by decide +kernel
theorem dX10_placed_36 : decode cX10_placed 36 = .ok (.aload 4, 2) := by decide +kernel
theorem dX10_placed_38 : decode cX10_placed 38 = .ok (.getfield 150, 3) := by decide +kernel
theorem dX10_placed_41 : decode cX10_placed 41 = .ok (.iconst (-1), 1) := by decide +kernel
theorem dX10_placed_42 : decode cX10_placed 42 = .ok (.if_icmp .eq 7, 3) := by decide +kernel
theorem dX10_placed_45 : decode cX10_placed 45 = .ok (.iconst 1, 1) := by decide +kernel
theorem dX10_placed_46 : decode cX10_placed 46 = .ok (.goto 21, 3) := by decide +kernel
theorem dX10_placed_49 : decode cX10_placed 49 = .ok (.iconst 0, 1) := by decide +kernel
theorem dX10_placed_50 : decode cX10_placed 50 = .ok (.goto 17, 3) := by decide +kernel
theorem dX10_placed_53 : decode cX10_placed 53 = .ok (.aload 4, 2) := by decide +kernel
theorem dX10_placed_55 : decode cX10_placed 55 = .ok (.getfield 150, 3) := by decide +kernel
theorem dX10_placed_58 : decode cX10_placed 58 = .ok (.iload_n 1, 1) := by decide +kernel
theorem dX10_placed_59 : decode cX10_placed 59 = .ok (.if_icmp .ne 7, 3) := by decide +kernel
theorem dX10_placed_62 : decode cX10_placed 62 = .ok (.iconst 1, 1) := by decide +kernel
theorem dX10_placed_63 : decode cX10_placed 63 = .ok (.goto 4, 3) := by decide +kernel
theorem dX10_placed_66 : decode cX10_placed 66 = .ok (.iconst 0, 1) := by decide +kernel
theorem dX10_placed_67 : decode cX10_placed 67 = .ok (.invokestatic 127, 3) := by decide +kernel
theorem dX10_placed_70 : decode cX10_placed 70 = .ok (.iadd, 1) := by decide +kernel
theorem dX10_placed_71 : decode cX10_placed 71 = .ok (.istore_n 2, 1) := by decide +kernel
theorem dX10_placed_72 : decode cX10_placed 72 = .ok (.goto (-62), 3) := by decide +kernel
theorem dX10_placed_75 : decode cX10_placed 75 = .ok (.iload_n 2, 1) := by decide +kernel
theorem dX10_placed_76 : decode cX10_placed 76 = .ok (.ireturn, 1) := by decide +kernel
theorem dX10_light_0 : decode cX10_light 0 = .ok (.aload_n 0, 1) := by decide +kernel
theorem dX10_light_1 : decode cX10_light 1 = .ok (.aload_n 0, 1) := by decide +kernel
theorem dX10_light_2 : decode cX10_light 2 = .ok (.getfield 28, 3) := by decide +kernel
theorem dX10_light_5 : decode cX10_light 5 = .ok (.getfield 48, 3) := by decide +kernel
theorem dX10_light_8 : decode cX10_light 8 = .ok (.ifCond .ne 16, 3) := by decide +kernel
theorem dX10_light_11 : decode cX10_light 11 = .ok (.aload_n 0, 1) := by decide +kernel
theorem dX10_light_12 : decode cX10_light 12 = .ok (.getfield 28, 3) := by decide +kernel
theorem dX10_light_15 : decode cX10_light 15 = .ok (.getfield 186, 3) := by decide +kernel
theorem dX10_light_18 : decode cX10_light 18 = .ok (.invokevirtual 192, 3) := by decide +kernel
theorem dX10_light_21 : decode cX10_light 21 = .ok (.ifCond .eq 7, 3) := by decide +kernel
theorem dX10_light_24 : decode cX10_light 24 = .ok (.iconst 1, 1) := by decide +kernel
theorem dX10_light_25 : decode cX10_light 25 = .ok (.goto 4, 3) := by decide +kernel
theorem dX10_light_28 : decode cX10_light 28 = .ok (.iconst 0, 1) := by decide +kernel
theorem dX10_light_29 : decode cX10_light 29 = .ok (.iconst 1, 1) := by decide +kernel
theorem dX10_light_30 : decode cX10_light 30 = .ok (.invokevirtual 88, 3) := by decide +kernel
theorem dX10_light_33 : decode cX10_light 33 = .ok (.ifCond .eq 5, 3) := by decide +kernel
theorem dX10_light_36 : decode cX10_light 36 = .ok (.iconst 0, 1) := by decide +kernel
theorem dX10_light_37 : decode cX10_light 37 = .ok (.ireturn, 1) := by decide +kernel
theorem dX10_light_38 : decode cX10_light 38 = .ok (.aload_n 0, 1) := by decide +kernel
theorem dX10_light_39 : decode cX10_light 39 = .ok (.getfield 28, 3) := by decide +kernel
theorem dX10_light_42 : decode cX10_light 42 = .ok (.iconst 1, 1) := by decide +kernel
theorem dX10_light_43 : decode cX10_light 43 = .ok (.putfield 48, 3) := by decide +kernel
theorem dX10_light_46 : decode cX10_light 46 = .ok (.aload_n 0, 1) := by decide +kernel
theorem dX10_light_47 : decode cX10_light 47 = .ok (.getfield 28, 3) := by decide +kernel
theorem dX10_light_50 : decode cX10_light 50 = .ok (.iconst 0, 1) := by decide +kernel
theorem dX10_light_51 : decode cX10_light 51 = .ok (.putfield 195, 3) := by decide +kernel
theorem dX10_light_54 : decode cX10_light 54 = .ok (.aload_n 0, 1) := by decide +kernel
theorem dX10_light_55 : decode cX10_light 55 = .ok (.getfield 28, 3) := by decide +kernel
theorem dX10_light_58 : decode cX10_light 58 = .ok (.iconst 0, 1) := by decide +kernel
theorem dX10_light_59 : decode cX10_light 59 = .ok (.putfield 198, 3) := by decide +kernel
theorem dX10_light_62 : decode cX10_light 62 = .ok (.aload_n 0, 1) := by decide +kernel
theorem dX10_light_63 : decode cX10_light 63 = .ok (.iconst (-1), 1) := by decide +kernel
theorem dX10_light_64 : decode cX10_light 64 = .ok (.invokevirtual 201, 3) := by decide +kernel
theorem dX10_light_67 : decode cX10_light 67 = .ok (.ireturn, 1) := by decide +kernel
theorem dX10_burn_0 : decode cX10_burn 0 = .ok (.aload_n 0, 1) := by decide +kernel
theorem dX10_burn_1 : decode cX10_burn 1 = .ok (.iload_n 1, 1) := by decide +kernel
theorem dX10_burn_2 : decode cX10_burn 2 = .ok (.iconst 1, 1) := by decide +kernel
theorem dX10_burn_3 : decode cX10_burn 3 = .ok (.bipush 60, 2) := by decide +kernel
theorem dX10_burn_5 : decode cX10_burn 5 = .ok (.invokestatic 44, 3) := by decide +kernel
theorem dX10_burn_8 : decode cX10_burn 8 = .ok (.ifCond .ne 7, 3) := by decide +kernel
theorem dX10_burn_11 : decode cX10_burn 11 = .ok (.iconst 1, 1) := by decide +kernel
theorem dX10_burn_12 : decode cX10_burn 12 = .ok (.goto 4, 3) := by decide +kernel
theorem dX10_burn_15 : decode cX10_burn 15 = .ok (.iconst 0, 1) := by decide +kernel
theorem dX10_burn_16 : decode cX10_burn 16 = .ok (.iconst 1, 1) := by decide +kernel
theorem dX10_burn_17 : decode cX10_burn 17 = .ok (.invokevirtual 88, 3) := by decide +kernel
theorem dX10_burn_20 : decode cX10_burn 20 = .ok (.ifCond .eq 5, 3) := by decide +kernel
theorem dX10_burn_23 : decode cX10_burn 23 = .ok (.iconst 0, 1) := by decide +kernel
theorem dX10_burn_24 : decode cX10_burn 24 = .ok (.ireturn, 1) := by decide +kernel
theorem dX10_burn_25 : decode cX10_burn 25 = .ok (.iconst 0, 1) := by decide +kernel
theorem dX10_burn_26 : decode cX10_burn 26 = .ok (.istore_n 2, 1) := by decide +kernel
theorem dX10_burn_27 : decode cX10_burn 27 = .ok (.iload_n 2, 1) := by decide +kernel
theorem dX10_burn_28 : decode cX10_burn 28 = .ok (.iload_n 1, 1) := by decide +kernel
theorem dX10_burn_29 : decode cX10_burn 29 = .ok (.if_icmp .ge 104, 3) := by decide +kernel
theorem dX10_burn_32 : decode cX10_burn 32 = .ok (.aload_n 0, 1) := by decide +kernel
theorem dX10_burn_33 : decode cX10_burn 33 = .ok (.getfield 28, 3) := by decide +kernel
theorem dX10_burn_36 : decode cX10_burn 36 = .ok (.getfield 52, 3) := by decide +kernel
theorem dX10_burn_39 : decode cX10_burn 39 = .ok (.dstore_n 3, 1) := by decide +kernel
theorem dX10_burn_40 : decode cX10_burn 40 = .ok (.aload_n 0, 1) := by decide +kernel
theorem dX10_burn_41 : decode cX10_burn 41 = .ok (.getfield 28, 3) := by decide +kernel
theorem dX10_burn_44 : decode cX10_burn 44 = .ok (.invokevirtual 204, 3) := by decide +kernel
theorem dX10_burn_47 : decode cX10_burn 47 = .ok (.aload_n 0, 1) := by decide +kernel
theorem dX10_burn_48 : decode cX10_burn 48 = .ok (.getfield 19, 3) := by decide +kernel
theorem dX10_burn_51 : decode cX10_burn 51 = .ok (.invokevirtual 110, 3) := by decide +kernel
theorem dX10_burn_54 : decode cX10_burn 54 = .ok (.astore 5, 2) := by decide +kernel
theorem dX10_burn_56 : decode cX10_burn 56 = .ok (.aload 5, 2) := by decide +kernel
theorem dX10_burn_58 : decode cX10_burn 58 = .ok (.invokeinterface 114 1, 5) := by decide +kernel
theorem dX10_burn_63 : decode cX10_burn 63 = .ok (.ifCond .eq 64, 3) := by decide +kernel
theorem dX10_burn_66 : decode cX10_burn 66 = .ok (.aload 5, 2) := by decide +kernel
theorem dX10_burn_68 : decode cX10_burn 68 = .ok (.invokeinterface 120 1, 5) := by decide +kernel
theorem dX10_burn_73 : decode cX10_burn 73 = .ok (.checkcast 99, 3) := by decide +kernel
theorem dX10_burn_76 : decode cX10_burn 76 = .ok (.astore 6, 2) := by decide +kernel
theorem dX10_burn_78 : decode cX10_burn 78 = .ok (.aload 6, 2) := by decide +kernel
theorem dX10_burn_80 : decode cX10_burn 80 = .ok (.getfield 150, 3) := by decide +kernel
theorem dX10_burn_83 : decode cX10_burn 83 = .ok (.iconst (-1), 1) := by decide +kernel
theorem dX10_burn_84 : decode cX10_burn 84 = .ok (.if_icmp .eq 40, 3) := by decide +kernel
theorem dX10_burn_87 : decode cX10_burn 87 = .ok (.aload 6, 2) := by decide +kernel
theorem dX10_burn_89 : decode cX10_burn 89 = .ok (.dload_n 3, 1) := by decide +kernel
theorem dX10_burn_90 : decode cX10_burn 90 = .ok (.getstatic 207, 3) := by decide +kernel
theorem dX10_burn_93 : decode cX10_burn 93 = .ok (.aload 6, 2) := by decide +kernel
theorem dX10_burn_95 : decode cX10_burn 95 = .ok (.getfield 150, 3) := by decide +kernel
theorem dX10_burn_98 : decode cX10_burn 98 = .ok (.daload, 1) := by decide +kernel
theorem dX10_burn_99 : decode cX10_burn 99 = .ok (.dadd, 1) := by decide +kernel
theorem dX10_burn_100 : decode cX10_burn 100 = .ok (.aload_n 0, 1) := by decide +kernel
theorem dX10_burn_101 : decode cX10_burn 101 = .ok (.getfield 28, 3) := by decide +kernel
theorem dX10_burn_104 : decode cX10_burn 104 = .ok (.getfield 52, 3) := by decide +kernel
theorem dX10_burn_107 : decode cX10_burn 107 = .ok (.getstatic 207, 3) := by decide +kernel
theorem dX10_burn_110 : decode cX10_burn 110 = .ok (.aload 6, 2) := by decide +kernel
theorem dX10_burn_112 : decode cX10_burn 112 = .ok (.getfield 150, 3) := by decide +kernel
theorem dX10_burn_115 : decode cX10_burn 115 = .ok (.daload, 1) := by decide +kernel
theorem dX10_burn_116 : decode cX10_burn 116 = .ok (.dadd, 1) := by decide +kernel
theorem dX10_burn_117 : decode cX10_burn 117 = .ok (.aload_n 0, 1) := by decide +kernel
theorem dX10_burn_118 : decode cX10_burn 118 = .ok (.getfield 211, 3) := by decide +kernel
theorem dX10_burn_121 : decode cX10_burn 121 = .ok (.invokevirtual 214, 3) := by decide +kernel
theorem dX10_burn_124 : decode cX10_burn 124 = .ok (.goto (-68), 3) := by decide +kernel
theorem dX10_burn_127 : decode cX10_burn 127 = .ok (.iinc 2 1, 3) := by decide +kernel
theorem dX10_burn_130 : decode cX10_burn 130 = .ok (.goto (-103), 3) := by decide +kernel
theorem dX10_burn_133 : decode cX10_burn 133 = .ok (.aload_n 0, 1) := by decide +kernel
theorem dX10_burn_134 : decode cX10_burn 134 = .ok (.getfield 28, 3) := by decide +kernel
theorem dX10_burn_137 : decode cX10_burn 137 = .ok (.getfield 48, 3) := by decide +kernel
theorem dX10_burn_140 : decode cX10_burn 140 = .ok (.ireturn, 1) := by decide +kernel
theorem dX10_damper_0 : decode cX10_damper 0 = .ok (.aload_n 0, 1) := by decide +kernel
theorem dX10_damper_1 : decode cX10_damper 1 = .ok (.iload_n 1, 1) := by decide +kernel
theorem dX10_damper_2 : decode cX10_damper 2 = .ok (.iconst 0, 1) := by decide +kernel
theorem dX10_damper_3 : decode cX10_damper 3 = .ok (.iconst 4, 1) := by decide +kernel
theorem dX10_damper_4 : decode cX10_damper 4 = .ok (.invokestatic 44, 3) := by decide +kernel
theorem dX10_damper_7 : decode cX10_damper 7 = .ok (.ifCond .ne 7, 3) := by decide +kernel
theorem dX10_damper_10 : decode cX10_damper 10 = .ok (.iconst 1, 1) := by decide +kernel
theorem dX10_damper_11 : decode cX10_damper 11 = .ok (.goto 4, 3) := by decide +kernel
theorem dX10_damper_14 : decode cX10_damper 14 = .ok (.iconst 0, 1) := by decide +kernel
theorem dX10_damper_15 : decode cX10_damper 15 = .ok (.iconst 1, 1) := by decide +kernel
theorem dX10_damper_16 : decode cX10_damper 16 = .ok (.invokevirtual 88, 3) := by decide +kernel
theorem dX10_damper_19 : decode cX10_damper 19 = .ok (.ifCond .eq 5, 3) := by decide +kernel
theorem dX10_damper_22 : decode cX10_damper 22 = .ok (.iconst 0, 1) := by decide +kernel
theorem dX10_damper_23 : decode cX10_damper 23 = .ok (.ireturn, 1) := by decide +kernel
theorem dX10_damper_24 : decode cX10_damper 24 = .ok (.aload_n 0, 1) := by decide +kernel
theorem dX10_damper_25 : decode cX10_damper 25 = .ok (.getfield 211, 3) := by decide +kernel
theorem dX10_damper_28 : decode cX10_damper 28 = .ok (.istore_n 2, 1) := by decide +kernel
theorem dX10_damper_29 : decode cX10_damper 29 = .ok (.aload_n 0, 1) := by decide +kernel
theorem dX10_damper_30 : decode cX10_damper 30 = .ok (.iload_n 1, 1) := by decide +kernel
theorem dX10_damper_31 : decode cX10_damper 31 = .ok (.putfield 211, 3) := by decide +kernel
theorem dX10_damper_34 : decode cX10_damper 34 = .ok (.iload_n 2, 1) := by decide +kernel
theorem dX10_damper_35 : decode cX10_damper 35 = .ok (.ireturn, 1) := by decide +kernel
theorem dX10_door_0 : decode cX10_door 0 = .ok (.aload_n 0, 1) := by decide +kernel
theorem dX10_door_1 : decode cX10_door 1 = .ok (.iconst 0, 1) := by decide +kernel
theorem dX10_door_2 : decode cX10_door 2 = .ok (.putfield 32, 3) := by decide +kernel
theorem dX10_door_5 : decode cX10_door 5 = .ok (.aload_n 0, 1) := by decide +kernel
theorem dX10_door_6 : decode cX10_door 6 = .ok (.getfield 28, 3) := by decide +kernel
theorem dX10_door_9 : decode cX10_door 9 = .ok (.getfield 218, 3) := by decide +kernel
theorem dX10_door_12 : decode cX10_door 12 = .ok (.istore_n 2, 1) := by decide +kernel
theorem dX10_door_13 : decode cX10_door 13 = .ok (.aload_n 0, 1) := by decide +kernel
theorem dX10_door_14 : decode cX10_door 14 = .ok (.getfield 28, 3) := by decide +kernel
theorem dX10_door_17 : decode cX10_door 17 = .ok (.iload_n 1, 1) := by decide +kernel
theorem dX10_door_18 : decode cX10_door 18 = .ok (.putfield 218, 3) := by decide +kernel
theorem dX10_door_21 : decode cX10_door 21 = .ok (.iload_n 2, 1) := by decide +kernel
theorem dX10_door_22 : decode cX10_door 22 = .ok (.ireturn, 1) := by decide +kernel
theorem dX10_bell_0 : decode cX10_bell 0 = .ok (.aload_n 0, 1) := by decide +kernel
theorem dX10_bell_1 : decode cX10_bell 1 = .ok (.iconst 0, 1) := by decide +kernel
theorem dX10_bell_2 : decode cX10_bell 2 = .ok (.putfield 32, 3) := by decide +kernel
theorem dX10_bell_5 : decode cX10_bell 5 = .ok (.aload_n 0, 1) := by decide +kernel
theorem dX10_bell_6 : decode cX10_bell 6 = .ok (.dup, 1) := by decide +kernel
theorem dX10_bell_7 : decode cX10_bell 7 = .ok (.getfield 221, 3) := by decide +kernel
theorem dX10_bell_10 : decode cX10_bell 10 = .ok (.iconst 1, 1) := by decide +kernel
theorem dX10_bell_11 : decode cX10_bell 11 = .ok (.iadd, 1) := by decide +kernel
theorem dX10_bell_12 : decode cX10_bell 12 = .ok (.putfield 221, 3) := by decide +kernel
theorem dX10_bell_15 : decode cX10_bell 15 = .ok (.aload_n 0, 1) := by decide +kernel
theorem dX10_bell_16 : decode cX10_bell 16 = .ok (.getfield 221, 3) := by decide +kernel
theorem dX10_bell_19 : decode cX10_bell 19 = .ok (.ireturn, 1) := by decide +kernel
theorem dX10_finish_0 : decode cX10_finish 0 = .ok (.aload_n 1, 1) := by decide +kernel
theorem dX10_finish_1 : decode cX10_finish 1 = .ok (.getfield 124, 3) := by decide +kernel
theorem dX10_finish_4 : decode cX10_finish 4 = .ok (.iconst 1, 1) := by decide +kernel
theorem dX10_finish_5 : decode cX10_finish 5 = .ok (.if_icmp .eq 12, 3) := by decide +kernel
theorem dX10_finish_8 : decode cX10_finish 8 = .ok (.aload_n 1, 1) := by decide +kernel
theorem dX10_finish_9 : decode cX10_finish 9 = .ok (.getfield 124, 3) := by decide +kernel
theorem dX10_finish_12 : decode cX10_finish 12 = .ok (.iconst 3, 1) := by decide +kernel
theorem dX10_finish_13 : decode cX10_finish 13 = .ok (.if_icmp .eq 4, 3) := by decide +kernel
theorem dX10_finish_16 : decode cX10_finish 16 = .ok (.return_, 1) := by decide +kernel
theorem dX10_finish_17 : decode cX10_finish 17 = .ok (.iload_n 2, 1) := by decide +kernel
theorem dX10_finish_18 : decode cX10_finish 18 = .ok (.aload_n 0, 1) := by decide +kernel
theorem dX10_finish_19 : decode cX10_finish 19 = .ok (.getfield 10, 3) := by decide +kernel
theorem dX10_finish_22 : decode cX10_finish 22 = .ok (.aload_n 1, 1) := by decide +kernel
theorem dX10_finish_23 : decode cX10_finish 23 = .ok (.getfield 224, 3) := by decide +kernel
theorem dX10_finish_26 : decode cX10_finish 26 = .ok (.invokevirtual 58, 3) := by decide +kernel
theorem dX10_finish_29 : decode cX10_finish 29 = .ok (.checkcast 62, 3) := by decide +kernel
theorem dX10_finish_32 : decode cX10_finish 32 = .ok (.iconst 0, 1) := by decide +kernel
theorem dX10_finish_33 : decode cX10_finish 33 = .ok (.iaload, 1) := by decide +kernel
theorem dX10_finish_34 : decode cX10_finish 34 = .ok (.if_icmp .le 11, 3) := by decide +kernel
theorem dX10_finish_37 : decode cX10_finish 37 = .ok (.aload_n 1, 1) := by decide +kernel
theorem dX10_finish_38 : decode cX10_finish 38 = .ok (.iconst 4, 1) := by decide +kernel
theorem dX10_finish_39 : decode cX10_finish 39 = .ok (.invokevirtual 227, 3) := by decide +kernel
theorem dX10_finish_42 : decode cX10_finish 42 = .ok (.goto 132, 3) := by decide +kernel
theorem dX10_finish_45 : decode cX10_finish 45 = .ok (.aload_n 1, 1) := by decide +kernel
theorem dX10_finish_46 : decode cX10_finish 46 = .ok (.getfield 124, 3) := by decide +kernel
theorem dX10_finish_49 : decode cX10_finish 49 = .ok (.iconst 1, 1) := by decide +kernel
theorem dX10_finish_50 : decode cX10_finish 50 = .ok (.if_icmp .ne 20, 3) := by decide +kernel
theorem dX10_finish_53 : decode cX10_finish 53 = .ok (.aload_n 1, 1) := by decide +kernel
theorem dX10_finish_54 : decode cX10_finish 54 = .ok (.iload_n 2, 1) := by decide +kernel
theorem dX10_finish_55 : decode cX10_finish 55 = .ok (.iconst 2, 1) := by decide +kernel
theorem dX10_finish_56 : decode cX10_finish 56 = .ok (.if_icmp .lt 7, 3) := by decide +kernel
theorem dX10_finish_59 : decode cX10_finish 59 = .ok (.iconst 2, 1) := by decide +kernel
theorem dX10_finish_60 : decode cX10_finish 60 = .ok (.goto 4, 3) := by decide +kernel
theorem dX10_finish_63 : decode cX10_finish 63 = .ok (.iconst 1, 1) := by decide +kernel
theorem dX10_finish_64 : decode cX10_finish 64 = .ok (.putfield 124, 3) := by decide +kernel
theorem dX10_finish_67 : decode cX10_finish 67 = .ok (.goto 107, 3) := by decide +kernel
theorem dX10_finish_70 : decode cX10_finish 70 = .ok (.iload_n 2, 1) := by decide +kernel
theorem dX10_finish_71 : decode cX10_finish 71 = .ok (.iconst 1, 1) := by decide +kernel
theorem dX10_finish_72 : decode cX10_finish 72 = .ok (.if_icmp .lt 102, 3) := by decide +kernel
theorem dX10_finish_75 : decode cX10_finish 75 = .ok (.aload_n 1, 1) := by decide +kernel
theorem dX10_finish_76 : decode cX10_finish 76 = .ok (.iconst 4, 1) := by decide +kernel
theorem dX10_finish_77 : decode cX10_finish 77 = .ok (.putfield 124, 3) := by decide +kernel
theorem dX10_finish_80 : decode cX10_finish 80 = .ok (.aload_n 0, 1) := by decide +kernel
theorem dX10_finish_81 : decode cX10_finish 81 = .ok (.aload_n 1, 1) := by decide +kernel
theorem dX10_finish_82 : decode cX10_finish 82 = .ok (.getfield 144, 3) := by decide +kernel
theorem dX10_finish_85 : decode cX10_finish 85 = .ok (.invokevirtual 147, 3) := by decide +kernel
theorem dX10_finish_88 : decode cX10_finish 88 = .ok (.istore_n 3, 1) := by decide +kernel
theorem dX10_finish_89 : decode cX10_finish 89 = .ok (.aload_n 0, 1) := by decide +kernel
theorem dX10_finish_90 : decode cX10_finish 90 = .ok (.aload_n 1, 1) := by decide +kernel
theorem dX10_finish_91 : decode cX10_finish 91 = .ok (.getfield 144, 3) := by decide +kernel
theorem dX10_finish_94 : decode cX10_finish 94 = .ok (.invokevirtual 230, 3) := by decide +kernel
theorem dX10_finish_97 : decode cX10_finish 97 = .ok (.aload_n 0, 1) := by decide +kernel
theorem dX10_finish_98 : decode cX10_finish 98 = .ok (.aload_n 1, 1) := by decide +kernel
theorem dX10_finish_99 : decode cX10_finish 99 = .ok (.getfield 224, 3) := by decide +kernel
theorem dX10_finish_102 : decode cX10_finish 102 = .ok (.invokevirtual 234, 3) := by decide +kernel
theorem dX10_finish_105 : decode cX10_finish 105 = .ok (.dsub, 1) := by decide +kernel
theorem dX10_finish_106 : decode cX10_finish 106 = .ok (.dstore 4, 2) := by decide +kernel
theorem dX10_finish_108 : decode cX10_finish 108 = .ok (.aload_n 1, 1) := by decide +kernel
theorem dX10_finish_109 : decode cX10_finish 109 = .ok (.dup, 1) := by decide +kernel
theorem dX10_finish_110 : decode cX10_finish 110 = .ok (.getfield 237, 3) := by decide +kernel
theorem dX10_finish_113 : decode cX10_finish 113 = .ok (.iload_n 2, 1) := by decide +kernel
theorem dX10_finish_114 : decode cX10_finish 114 = .ok (.iload_n 3, 1) := by decide +kernel
theorem dX10_finish_115 : decode cX10_finish 115 = .ok (.if_icmp .ge 8, 3) := by decide +kernel
theorem dX10_finish_118 : decode cX10_finish 118 = .ok (.bipush 8, 2) := by decide +kernel
theorem dX10_finish_120 : decode cX10_finish 120 = .ok (.goto 4, 3) := by decide +kernel
theorem dX10_finish_123 : decode cX10_finish 123 = .ok (.iconst 0, 1) := by decide +kernel
theorem dX10_finish_124 : decode cX10_finish 124 = .ok (.iload_n 2, 1) := by decide +kernel
theorem dX10_finish_125 : decode cX10_finish 125 = .ok (.iload_n 3, 1) := by decide +kernel
theorem dX10_finish_126 : decode cX10_finish 126 = .ok (.iconst 2, 1) := by decide +kernel
theorem dX10_finish_127 : decode cX10_finish 127 = .ok (.iadd, 1) := by decide +kernel
theorem dX10_finish_128 : decode cX10_finish 128 = .ok (.if_icmp .le 8, 3) := by decide +kernel
theorem dX10_finish_131 : decode cX10_finish 131 = .ok (.bipush 16, 2) := by decide +kernel
theorem dX10_finish_133 : decode cX10_finish 133 = .ok (.goto 4, 3) := by decide +kernel
theorem dX10_finish_136 : decode cX10_finish 136 = .ok (.iconst 0, 1) := by decide +kernel
theorem dX10_finish_137 : decode cX10_finish 137 = .ok (.ior, 1) := by decide +kernel
theorem dX10_finish_138 : decode cX10_finish 138 = .ok (.dload 4, 2) := by decide +kernel
theorem dX10_finish_140 : decode cX10_finish 140 = .ok (.ldc2_w 84, 3) := by decide +kernel
theorem dX10_finish_143 : decode cX10_finish 143 = .ok (.dcmp .l, 1) := by decide +kernel
theorem dX10_finish_144 : decode cX10_finish 144 = .ok (.ifCond .le 8, 3) := by decide +kernel
theorem dX10_finish_147 : decode cX10_finish 147 = .ok (.bipush 32, 2) := by decide +kernel
theorem dX10_finish_149 : decode cX10_finish 149 = .ok (.goto 4, 3) := by decide +kernel
theorem dX10_finish_152 : decode cX10_finish 152 = .ok (.iconst 0, 1) := by decide +kernel
theorem dX10_finish_153 : decode cX10_finish 153 = .ok (.ior, 1) := by decide +kernel
theorem dX10_finish_154 : decode cX10_finish 154 = .ok (.dload 4, 2) := by decide +kernel
theorem dX10_finish_156 : decode cX10_finish 156 = .ok (.ldc2_w 240, 3) := by decide +kernel
theorem dX10_finish_159 : decode cX10_finish 159 = .ok (.dcmp .g, 1) := by decide +kernel
theorem dX10_finish_160 : decode cX10_finish 160 = .ok (.ifCond .ge 8, 3) := by decide +kernel
theorem dX10_finish_163 : decode cX10_finish 163 = .ok (.bipush 64, 2) := by decide +kernel
theorem dX10_finish_165 : decode cX10_finish 165 = .ok (.goto 4, 3) := by decide +kernel
theorem dX10_finish_168 : decode cX10_finish 168 = .ok (.iconst 0, 1) := by decide +kernel
theorem dX10_finish_169 : decode cX10_finish 169 = .ok (.ior, 1) := by decide +kernel
theorem dX10_finish_170 : decode cX10_finish 170 = .ok (.ior, 1) := by decide +kernel
theorem dX10_finish_171 : decode cX10_finish 171 = .ok (.putfield 237, 3) := by decide +kernel
theorem dX10_finish_174 : decode cX10_finish 174 = .ok (.return_, 1) := by decide +kernel
theorem dX10_unload_0 : decode cX10_unload 0 = .ok (.aload_n 0, 1) := by decide +kernel
theorem dX10_unload_1 : decode cX10_unload 1 = .ok (.aload_n 0, 1) := by decide +kernel
theorem dX10_unload_2 : decode cX10_unload 2 = .ok (.invokevirtual 170, 3) := by decide +kernel
theorem dX10_unload_5 : decode cX10_unload 5 = .ok (.iconst 1, 1) := by decide +kernel
theorem dX10_unload_6 : decode cX10_unload 6 = .ok (.invokevirtual 88, 3) := by decide +kernel
theorem dX10_unload_9 : decode cX10_unload 9 = .ok (.ifCond .eq 5, 3) := by decide +kernel
theorem dX10_unload_12 : decode cX10_unload 12 = .ok (.iconst 0, 1) := by decide +kernel
theorem dX10_unload_13 : decode cX10_unload 13 = .ok (.ireturn, 1) := by decide +kernel
theorem dX10_unload_14 : decode cX10_unload 14 = .ok (.iconst 0, 1) := by decide +kernel
theorem dX10_unload_15 : decode cX10_unload 15 = .ok (.istore_n 1, 1) := by decide +kernel
theorem dX10_unload_16 : decode cX10_unload 16 = .ok (.aload_n 0, 1) := by decide +kernel
theorem dX10_unload_17 : decode cX10_unload 17 = .ok (.getfield 19, 3) := by decide +kernel
theorem dX10_unload_20 : decode cX10_unload 20 = .ok (.invokevirtual 110, 3) := by decide +kernel
theorem dX10_unload_23 : decode cX10_unload 23 = .ok (.astore_n 2, 1) := by decide +kernel
theorem dX10_unload_24 : decode cX10_unload 24 = .ok (.aload_n 2, 1) := by decide +kernel
theorem dX10_unload_25 : decode cX10_unload 25 = .ok (.invokeinterface 114 1, 5) := by decide +kernel
theorem dX10_unload_30 : decode cX10_unload 30 = .ok (.ifCond .eq 66, 3) := by decide +kernel
theorem dX10_unload_33 : decode cX10_unload 33 = .ok (.aload_n 2, 1) := by decide +kernel
theorem dX10_unload_34 : decode cX10_unload 34 = .ok (.invokeinterface 120 1, 5) := by decide +kernel
theorem dX10_unload_39 : decode cX10_unload 39 = .ok (.checkcast 99, 3) := by decide +kernel
theorem dX10_unload_42 : decode cX10_unload 42 = .ok (.astore_n 3, 1) := by decide +kernel
theorem dX10_unload_43 : decode cX10_unload 43 = .ok (.aload_n 3, 1) := by decide +kernel
theorem dX10_unload_44 : decode cX10_unload 44 = .ok (.getfield 150, 3) := by decide +kernel
theorem dX10_unload_47 : decode cX10_unload 47 = .ok (.iconst (-1), 1) := by decide +kernel
theorem dX10_unload_48 : decode cX10_unload 48 = .ok (.if_icmp .ne 6, 3) := by decide +kernel
theorem dX10_unload_51 : decode cX10_unload 51 = .ok (.goto (-27), 3) := by decide +kernel
theorem dX10_unload_54 : decode cX10_unload 54 = .ok (.aload_n 0, 1) := by decide +kernel
theorem dX10_unload_55 : decode cX10_unload 55 = .ok (.aload_n 3, 1) := by decide +kernel
theorem dX10_unload_56 : decode cX10_unload 56 = .ok (.aload_n 0, 1) := by decide +kernel
theorem dX10_unload_57 : decode cX10_unload 57 = .ok (.getfield 28, 3) := by decide +kernel
theorem dX10_unload_60 : decode cX10_unload 60 = .ok (.aload_n 3, 1) := by decide +kernel
theorem dX10_unload_61 : decode cX10_unload 61 = .ok (.getfield 150, 3) := by decide +kernel
theorem dX10_unload_64 : decode cX10_unload 64 = .ok (.invokevirtual 242, 3) := by decide +kernel
theorem dX10_unload_67 : decode cX10_unload 67 = .ok (.invokevirtual 245, 3) := by decide +kernel
theorem dX10_unload_70 : decode cX10_unload 70 = .ok (.aload_n 3, 1) := by decide +kernel
theorem dX10_unload_71 : decode cX10_unload 71 = .ok (.invokestatic 182, 3) := by decide +kernel
theorem dX10_unload_74 : decode cX10_unload 74 = .ok (.iload_n 1, 1) := by decide +kernel
theorem dX10_unload_75 : decode cX10_unload 75 = .ok (.aload_n 3, 1) := by decide +kernel
theorem dX10_unload_76 : decode cX10_unload 76 = .ok (.getfield 124, 3) := by decide +kernel
theorem dX10_unload_79 : decode cX10_unload 79 = .ok (.iconst 5, 1) := by decide +kernel
theorem dX10_unload_80 : decode cX10_unload 80 = .ok (.if_icmp .ne 7, 3) := by decide +kernel
theorem dX10_unload_83 : decode cX10_unload 83 = .ok (.iconst 1, 1) := by decide +kernel
theorem dX10_unload_84 : decode cX10_unload 84 = .ok (.goto 4, 3) := by decide +kernel
theorem dX10_unload_87 : decode cX10_unload 87 = .ok (.iconst 0, 1) := by decide +kernel
theorem dX10_unload_88 : decode cX10_unload 88 = .ok (.invokestatic 127, 3) := by decide +kernel
theorem dX10_unload_91 : decode cX10_unload 91 = .ok (.iadd, 1) := by decide +kernel
theorem dX10_unload_92 : decode cX10_unload 92 = .ok (.istore_n 1, 1) := by decide +kernel
theorem dX10_unload_93 : decode cX10_unload 93 = .ok (.goto (-69), 3) := by decide +kernel
theorem dX10_unload_96 : decode cX10_unload 96 = .ok (.iconst 0, 1) := by decide +kernel
theorem dX10_unload_97 : decode cX10_unload 97 = .ok (.istore_n 2, 1) := by decide +kernel
theorem dX10_unload_98 : decode cX10_unload 98 = .ok (.iconst 0, 1) := by decide +kernel
theorem dX10_unload_99 : decode cX10_unload 99 = .ok (.istore_n 3, 1) := by decide +kernel
theorem dX10_unload_100 : decode cX10_unload 100 = .ok (.iload_n 3, 1) := by decide +kernel
theorem dX10_unload_101 : decode cX10_unload 101 = .ok (.iconst 3, 1) := by decide +kernel
theorem dX10_unload_102 : decode cX10_unload 102 = .ok (.if_icmp .ge 41, 3) := by decide +kernel
theorem dX10_unload_105 : decode cX10_unload 105 = .ok (.iload_n 2, 1) := by decide +kernel
theorem dX10_unload_106 : decode cX10_unload 106 = .ok (.aload_n 0, 1) := by decide +kernel
theorem dX10_unload_107 : decode cX10_unload 107 = .ok (.getfield 28, 3) := by decide +kernel
theorem dX10_unload_110 : decode cX10_unload 110 = .ok (.getfield 249, 3) := by decide +kernel
theorem dX10_unload_113 : decode cX10_unload 113 = .ok (.iload_n 3, 1) := by decide +kernel
theorem dX10_unload_114 : decode cX10_unload 114 = .ok (.daload, 1) := by decide +kernel
theorem dX10_unload_115 : decode cX10_unload 115 = .ok (.dconst 0, 1) := by decide +kernel
theorem dX10_unload_116 : decode cX10_unload 116 = .ok (.dcmp .l, 1) := by decide +kernel
theorem dX10_unload_117 : decode cX10_unload 117 = .ok (.ifCond .le 7, 3) := by decide +kernel
theorem dX10_unload_120 : decode cX10_unload 120 = .ok (.iconst 1, 1) := by decide +kernel
theorem dX10_unload_121 : decode cX10_unload 121 = .ok (.goto 4, 3) := by decide +kernel
theorem dX10_unload_124 : decode cX10_unload 124 = .ok (.iconst 0, 1) := by decide +kernel
theorem dX10_unload_125 : decode cX10_unload 125 = .ok (.ior, 1) := by decide +kernel
theorem dX10_unload_126 : decode cX10_unload 126 = .ok (.istore_n 2, 1) := by decide +kernel
theorem dX10_unload_127 : decode cX10_unload 127 = .ok (.aload_n 0, 1) := by decide +kernel
theorem dX10_unload_128 : decode cX10_unload 128 = .ok (.getfield 28, 3) := by decide +kernel
theorem dX10_unload_131 : decode cX10_unload 131 = .ok (.getfield 249, 3) := by decide +kernel
theorem dX10_unload_134 : decode cX10_unload 134 = .ok (.iload_n 3, 1) := by decide +kernel
theorem dX10_unload_135 : decode cX10_unload 135 = .ok (.dconst 0, 1) := by decide +kernel
theorem dX10_unload_136 : decode cX10_unload 136 = .ok (.dastore, 1) := by decide +kernel
theorem dX10_unload_137 : decode cX10_unload 137 = .ok (.iinc 3 1, 3) := by decide +kernel
theorem dX10_unload_140 : decode cX10_unload 140 = .ok (.goto (-40), 3) := by decide +kernel
theorem dX10_unload_143 : decode cX10_unload 143 = .ok (.iload_n 2, 1) := by decide +kernel
theorem dX10_unload_144 : decode cX10_unload 144 = .ok (.ifCond .eq 18, 3) := by decide +kernel
theorem dX10_unload_147 : decode cX10_unload 147 = .ok (.aload_n 0, 1) := by decide +kernel
theorem dX10_unload_148 : decode cX10_unload 148 = .ok (.getfield 28, 3) := by decide +kernel
theorem dX10_unload_151 : decode cX10_unload 151 = .ok (.dup, 1) := by decide +kernel
theorem dX10_unload_152 : decode cX10_unload 152 = .ok (.getfield 252, 3) := by decide +kernel
theorem dX10_unload_155 : decode cX10_unload 155 = .ok (.ldc_w 256, 3) := by decide +kernel
theorem dX10_unload_158 : decode cX10_unload 158 = .ok (.fmul, 1) := by decide +kernel
theorem dX10_unload_159 : decode cX10_unload 159 = .ok (.putfield 252, 3) := by decide +kernel
theorem dX10_unload_162 : decode cX10_unload 162 = .ok (.iload_n 1, 1) := by decide +kernel
theorem dX10_unload_163 : decode cX10_unload 163 = .ok (.ireturn, 1) := by decide +kernel
theorem dX10_order_0 : decode cX10_order 0 = .ok (.aload_n 0, 1) := by decide +kernel
theorem dX10_order_1 : decode cX10_order 1 = .ok (.aload_n 0, 1) := by decide +kernel
theorem dX10_order_2 : decode cX10_order 2 = .ok (.iload_n 1, 1) := by decide +kernel
theorem dX10_order_3 : decode cX10_order 3 = .ok (.invokevirtual 141, 3) := by decide +kernel
theorem dX10_order_6 : decode cX10_order 6 = .ok (.iconst 1, 1) := by decide +kernel
theorem dX10_order_7 : decode cX10_order 7 = .ok (.invokevirtual 88, 3) := by decide +kernel
theorem dX10_order_10 : decode cX10_order 10 = .ok (.ifCond .ne 71, 3) := by decide +kernel
theorem dX10_order_13 : decode cX10_order 13 = .ok (.aload_n 0, 1) := by decide +kernel
theorem dX10_order_14 : decode cX10_order 14 = .ok (.iload_n 2, 1) := by decide +kernel
theorem dX10_order_15 : decode cX10_order 15 = .ok (.iconst 0, 1) := by decide +kernel
theorem dX10_order_16 : decode cX10_order 16 = .ok (.iconst 2, 1) := by decide +kernel
theorem dX10_order_17 : decode cX10_order 17 = .ok (.invokestatic 44, 3) := by decide +kernel
theorem dX10_order_20 : decode cX10_order 20 = .ok (.ifCond .eq 24, 3) := by decide +kernel
theorem dX10_order_23 : decode cX10_order 23 = .ok (.iload_n 3, 1) := by decide +kernel
theorem dX10_order_24 : decode cX10_order 24 = .ok (.iconst 0, 1) := by decide +kernel
theorem dX10_order_25 : decode cX10_order 25 = .ok (.bipush 60, 2) := by decide +kernel
theorem dX10_order_27 : decode cX10_order 27 = .ok (.invokestatic 44, 3) := by decide +kernel
theorem dX10_order_30 : decode cX10_order 30 = .ok (.ifCond .eq 14, 3) := by decide +kernel
theorem dX10_order_33 : decode cX10_order 33 = .ok (.iload 4, 2) := by decide +kernel
theorem dX10_order_35 : decode cX10_order 35 = .ok (.iconst 1, 1) := by decide +kernel
theorem dX10_order_36 : decode cX10_order 36 = .ok (.bipush 99, 2) := by decide +kernel
theorem dX10_order_38 : decode cX10_order 38 = .ok (.invokestatic 44, 3) := by decide +kernel
theorem dX10_order_41 : decode cX10_order 41 = .ok (.ifCond .ne 7, 3) := by decide +kernel
theorem dX10_order_44 : decode cX10_order 44 = .ok (.iconst 1, 1) := by decide +kernel
theorem dX10_order_45 : decode cX10_order 45 = .ok (.goto 4, 3) := by decide +kernel
theorem dX10_order_48 : decode cX10_order 48 = .ok (.iconst 0, 1) := by decide +kernel
theorem dX10_order_49 : decode cX10_order 49 = .ok (.iconst 2, 1) := by decide +kernel
theorem dX10_order_50 : decode cX10_order 50 = .ok (.invokevirtual 36, 3) := by decide +kernel
theorem dX10_order_53 : decode cX10_order 53 = .ok (.ifCond .ne 28, 3) := by decide +kernel
theorem dX10_order_56 : decode cX10_order 56 = .ok (.aload_n 0, 1) := by decide +kernel
theorem dX10_order_57 : decode cX10_order 57 = .ok (.aload_n 0, 1) := by decide +kernel
theorem dX10_order_58 : decode cX10_order 58 = .ok (.getfield 22, 3) := by decide +kernel
theorem dX10_order_61 : decode cX10_order 61 = .ok (.invokevirtual 40, 3) := by decide +kernel
theorem dX10_order_64 : decode cX10_order 64 = .ok (.bipush 6, 2) := by decide +kernel
theorem dX10_order_66 : decode cX10_order 66 = .ok (.if_icmp .ne 7, 3) := by decide +kernel
theorem dX10_order_69 : decode cX10_order 69 = .ok (.iconst 1, 1) := by decide +kernel
theorem dX10_order_70 : decode cX10_order 70 = .ok (.goto 4, 3) := by decide +kernel
theorem dX10_order_73 : decode cX10_order 73 = .ok (.iconst 0, 1) := by decide +kernel
theorem dX10_order_74 : decode cX10_order 74 = .ok (.iconst 3, 1) := by decide +kernel
theorem dX10_order_75 : decode cX10_order 75 = .ok (.invokevirtual 36, 3) := by decide +kernel
theorem dX10_order_78 : decode cX10_order 78 = .ok (.ifCond .eq 5, 3) := by decide +kernel
theorem dX10_order_81 : decode cX10_order 81 = .ok (.iconst 0, 1) := by decide +kernel
theorem dX10_order_82 : decode cX10_order 82 = .ok (.ireturn, 1) := by decide +kernel
theorem dX10_order_83 : decode cX10_order 83 = .ok (.aload_n 0, 1) := by decide +kernel
theorem dX10_order_84 : decode cX10_order 84 = .ok (.getfield 22, 3) := by decide +kernel
theorem dX10_order_87 : decode cX10_order 87 = .ok (.iconst 5, 1) := by decide +kernel
theorem dX10_order_88 : decode cX10_order 88 = .ok (.newarray .int, 2) := by decide +kernel
theorem dX10_order_90 : decode cX10_order 90 = .ok (.dup, 1) := by decide +kernel
theorem dX10_order_91 : decode cX10_order 91 = .ok (.iconst 0, 1) := by decide +kernel
theorem dX10_order_92 : decode cX10_order 92 = .ok (.iload_n 1, 1) := by decide +kernel
theorem dX10_order_93 : decode cX10_order 93 = .ok (.iastore, 1) := by decide +kernel
theorem dX10_order_94 : decode cX10_order 94 = .ok (.dup, 1) := by decide +kernel
theorem dX10_order_95 : decode cX10_order 95 = .ok (.iconst 1, 1) := by decide +kernel
theorem dX10_order_96 : decode cX10_order 96 = .ok (.iload_n 2, 1) := by decide +kernel
theorem dX10_order_97 : decode cX10_order 97 = .ok (.iastore, 1) := by decide +kernel
theorem dX10_order_98 : decode cX10_order 98 = .ok (.dup, 1) := by decide +kernel
theorem dX10_order_99 : decode cX10_order 99 = .ok (.iconst 2, 1) := by decide +kernel
theorem dX10_order_100 : decode cX10_order 100 = .ok (.aload_n 0, 1) := by decide +kernel
theorem dX10_order_101 : decode cX10_order 101 = .ok (.getfield 131, 3) := by decide +kernel
theorem dX10_order_104 : decode cX10_order 104 = .ok (.iload_n 3, 1) := by decide +kernel
theorem dX10_order_105 : decode cX10_order 105 = .ok (.iadd, 1) := by decide +kernel
theorem dX10_order_106 : decode cX10_order 106 = .ok (.iastore, 1) := by decide +kernel
theorem dX10_order_107 : decode cX10_order 107 = .ok (.dup, 1) := by decide +kernel
theorem dX10_order_108 : decode cX10_order 108 = .ok (.iconst 3, 1) := by decide +kernel
theorem dX10_order_109 : decode cX10_order 109 = .ok (.iload 4, 2) := by decide +kernel
theorem dX10_order_111 : decode cX10_order 111 = .ok (.iastore, 1) := by decide +kernel
theorem dX10_order_112 : decode cX10_order 112 = .ok (.dup, 1) := by decide +kernel
theorem dX10_order_113 : decode cX10_order 113 = .ok (.iconst 4, 1) := by decide +kernel
theorem dX10_order_114 : decode cX10_order 114 = .ok (.iconst 0, 1) := by decide +kernel
theorem dX10_order_115 : decode cX10_order 115 = .ok (.iastore, 1) := by decide +kernel
theorem dX10_order_116 : decode cX10_order 116 = .ok (.invokevirtual 91, 3) := by decide +kernel
theorem dX10_order_119 : decode cX10_order 119 = .ok (.pop, 1) := by decide +kernel
theorem dX10_order_120 : decode cX10_order 120 = .ok (.aload_n 0, 1) := by decide +kernel
theorem dX10_order_121 : decode cX10_order 121 = .ok (.getfield 22, 3) := by decide +kernel
theorem dX10_order_124 : decode cX10_order 124 = .ok (.invokevirtual 40, 3) := by decide +kernel
theorem dX10_order_127 : decode cX10_order 127 = .ok (.iconst 1, 1) := by decide +kernel
theorem dX10_order_128 : decode cX10_order 128 = .ok (.isub, 1) := by decide +kernel
theorem dX10_order_129 : decode cX10_order 129 = .ok (.ireturn, 1) := by decide +kernel
theorem dX10_colour_0 : decode cX10_colour 0 = .ok (.aload_n 1, 1) := by decide +kernel
theorem dX10_colour_1 : decode cX10_colour 1 = .ok (.getfield 124, 3) := by decide +kernel
theorem dX10_colour_4 : decode cX10_colour 4 = .ok (.iconst 4, 1) := by decide +kernel
theorem dX10_colour_5 : decode cX10_colour 5 = .ok (.if_icmp .eq 14, 3) := by decide +kernel
theorem dX10_colour_8 : decode cX10_colour 8 = .ok (.aload_n 1, 1) := by decide +kernel
theorem dX10_colour_9 : decode cX10_colour 9 = .ok (.getfield 124, 3) := by decide +kernel
theorem dX10_colour_12 : decode cX10_colour 12 = .ok (.bipush 6, 2) := by decide +kernel
theorem dX10_colour_14 : decode cX10_colour 14 = .ok (.if_icmp .eq 5, 3) := by decide +kernel
theorem dX10_colour_17 : decode cX10_colour 17 = .ok (.iconst (-1), 1) := by decide +kernel
theorem dX10_colour_18 : decode cX10_colour 18 = .ok (.ireturn, 1) := by decide +kernel
theorem dX10_colour_19 : decode cX10_colour 19 = .ok (.aload_n 0, 1) := by decide +kernel
theorem dX10_colour_20 : decode cX10_colour 20 = .ok (.getfield 16, 3) := by decide +kernel
theorem dX10_colour_23 : decode cX10_colour 23 = .ok (.aload_n 1, 1) := by decide +kernel
theorem dX10_colour_24 : decode cX10_colour 24 = .ok (.getfield 144, 3) := by decide +kernel
theorem dX10_colour_27 : decode cX10_colour 27 = .ok (.invokevirtual 58, 3) := by decide +kernel
theorem dX10_colour_30 : decode cX10_colour 30 = .ok (.checkcast 62, 3) := by decide +kernel
theorem dX10_colour_33 : decode cX10_colour 33 = .ok (.iconst 4, 1) := by decide +kernel
theorem dX10_colour_34 : decode cX10_colour 34 = .ok (.iaload, 1) := by decide +kernel
theorem dX10_colour_35 : decode cX10_colour 35 = .ok (.iconst 5, 1) := by decide +kernel
theorem dX10_colour_36 : decode cX10_colour 36 = .ok (.if_icmp .ge 7, 3) := by decide +kernel
theorem dX10_colour_39 : decode cX10_colour 39 = .ok (.iconst 0, 1) := by decide +kernel
theorem dX10_colour_40 : decode cX10_colour 40 = .ok (.goto 16, 3) := by decide +kernel
theorem dX10_colour_43 : decode cX10_colour 43 = .ok (.aload_n 1, 1) := by decide +kernel
theorem dX10_colour_44 : decode cX10_colour 44 = .ok (.getfield 257, 3) := by decide +kernel
theorem dX10_colour_47 : decode cX10_colour 47 = .ok (.iconst 4, 1) := by decide +kernel
theorem dX10_colour_48 : decode cX10_colour 48 = .ok (.if_icmp .lt 7, 3) := by decide +kernel
theorem dX10_colour_51 : decode cX10_colour 51 = .ok (.iconst 1, 1) := by decide +kernel
theorem dX10_colour_52 : decode cX10_colour 52 = .ok (.goto 4, 3) := by decide +kernel
theorem dX10_colour_55 : decode cX10_colour 55 = .ok (.iconst 2, 1) := by decide +kernel
theorem dX10_colour_56 : decode cX10_colour 56 = .ok (.ireturn, 1) := by decide +kernel
theorem dX10_meet_0 : decode cX10_meet 0 = .ok (.aload_n 0, 1) := by decide +kernel
theorem dX10_meet_1 : decode cX10_meet 1 = .ok (.iload_n 1, 1) := by decide +kernel
theorem dX10_meet_2 : decode cX10_meet 2 = .ok (.iconst 0, 1) := by decide +kernel
theorem dX10_meet_3 : decode cX10_meet 3 = .ok (.aload_n 0, 1) := by decide +kernel
theorem dX10_meet_4 : decode cX10_meet 4 = .ok (.getfield 22, 3) := by decide +kernel
theorem dX10_meet_7 : decode cX10_meet 7 = .ok (.invokevirtual 40, 3) := by decide +kernel
theorem dX10_meet_10 : decode cX10_meet 10 = .ok (.iconst 1, 1) := by decide +kernel
theorem dX10_meet_11 : decode cX10_meet 11 = .ok (.isub, 1) := by decide +kernel
theorem dX10_meet_12 : decode cX10_meet 12 = .ok (.invokestatic 44, 3) := by decide +kernel
theorem dX10_meet_15 : decode cX10_meet 15 = .ok (.ifCond .eq 11, 3) := by decide +kernel
theorem dX10_meet_18 : decode cX10_meet 18 = .ok (.aload_n 0, 1) := by decide +kernel
theorem dX10_meet_19 : decode cX10_meet 19 = .ok (.iload_n 2, 1) := by decide +kernel
theorem dX10_meet_20 : decode cX10_meet 20 = .ok (.invokevirtual 104, 3) := by decide +kernel
theorem dX10_meet_23 : decode cX10_meet 23 = .ok (.ifCond .eq 7, 3) := by decide +kernel
theorem dX10_meet_26 : decode cX10_meet 26 = .ok (.iconst 1, 1) := by decide +kernel
theorem dX10_meet_27 : decode cX10_meet 27 = .ok (.goto 4, 3) := by decide +kernel
theorem dX10_meet_30 : decode cX10_meet 30 = .ok (.iconst 0, 1) := by decide +kernel
theorem dX10_meet_31 : decode cX10_meet 31 = .ok (.iconst 1, 1) := by decide +kernel
theorem dX10_meet_32 : decode cX10_meet 32 = .ok (.invokevirtual 88, 3) := by decide +kernel
theorem dX10_meet_35 : decode cX10_meet 35 = .ok (.ifCond .eq 5, 3) := by decide +kernel
theorem dX10_meet_38 : decode cX10_meet 38 = .ok (.iconst 0, 1) := by decide +kernel
theorem dX10_meet_39 : decode cX10_meet 39 = .ok (.ireturn, 1) := by decide +kernel
theorem dX10_meet_40 : decode cX10_meet 40 = .ok (.aload_n 0, 1) := by decide +kernel
theorem dX10_meet_41 : decode cX10_meet 41 = .ok (.getfield 22, 3) := by decide +kernel
theorem dX10_meet_44 : decode cX10_meet 44 = .ok (.iload_n 1, 1) := by decide +kernel
theorem dX10_meet_45 : decode cX10_meet 45 = .ok (.invokevirtual 58, 3) := by decide +kernel
theorem dX10_meet_48 : decode cX10_meet 48 = .ok (.checkcast 62, 3) := by decide +kernel
theorem dX10_meet_51 : decode cX10_meet 51 = .ok (.astore_n 3, 1) := by decide +kernel
theorem dX10_meet_52 : decode cX10_meet 52 = .ok (.aload_n 0, 1) := by decide +kernel
theorem dX10_meet_53 : decode cX10_meet 53 = .ok (.getfield 19, 3) := by decide +kernel
theorem dX10_meet_56 : decode cX10_meet 56 = .ok (.iload_n 2, 1) := by decide +kernel
theorem dX10_meet_57 : decode cX10_meet 57 = .ok (.invokevirtual 58, 3) := by decide +kernel
theorem dX10_meet_60 : decode cX10_meet 60 = .ok (.checkcast 99, 3) := by decide +kernel
theorem dX10_meet_63 : decode cX10_meet 63 = .ok (.astore 4, 2) := by decide +kernel
theorem dX10_meet_65 : decode cX10_meet 65 = .ok (.aload_n 0, 1) := by decide +kernel
theorem dX10_meet_66 : decode cX10_meet 66 = .ok (.aload_n 3, 1) := by decide +kernel
theorem dX10_meet_67 : decode cX10_meet 67 = .ok (.iconst 4, 1) := by decide +kernel
theorem dX10_meet_68 : decode cX10_meet 68 = .ok (.iaload, 1) := by decide +kernel
theorem dX10_meet_69 : decode cX10_meet 69 = .ok (.iconst 1, 1) := by decide +kernel
theorem dX10_meet_70 : decode cX10_meet 70 = .ok (.if_icmp .eq 35, 3) := by decide +kernel
theorem dX10_meet_73 : decode cX10_meet 73 = .ok (.aload 4, 2) := by decide +kernel
theorem dX10_meet_75 : decode cX10_meet 75 = .ok (.getfield 124, 3) := by decide +kernel
theorem dX10_meet_78 : decode cX10_meet 78 = .ok (.iconst 4, 1) := by decide +kernel
theorem dX10_meet_79 : decode cX10_meet 79 = .ok (.if_icmp .ne 26, 3) := by decide +kernel
theorem dX10_meet_82 : decode cX10_meet 82 = .ok (.aload 4, 2) := by decide +kernel
theorem dX10_meet_84 : decode cX10_meet 84 = .ok (.getfield 144, 3) := by decide +kernel
theorem dX10_meet_87 : decode cX10_meet 87 = .ok (.aload_n 3, 1) := by decide +kernel
theorem dX10_meet_88 : decode cX10_meet 88 = .ok (.iconst 0, 1) := by decide +kernel
theorem dX10_meet_89 : decode cX10_meet 89 = .ok (.iaload, 1) := by decide +kernel
theorem dX10_meet_90 : decode cX10_meet 90 = .ok (.if_icmp .ne 15, 3) := by decide +kernel
theorem dX10_meet_93 : decode cX10_meet 93 = .ok (.aload_n 0, 1) := by decide +kernel
theorem dX10_meet_94 : decode cX10_meet 94 = .ok (.aload 4, 2) := by decide +kernel
theorem dX10_meet_96 : decode cX10_meet 96 = .ok (.invokevirtual 260, 3) := by decide +kernel
theorem dX10_meet_99 : decode cX10_meet 99 = .ok (.aload_n 3, 1) := by decide +kernel
theorem dX10_meet_100 : decode cX10_meet 100 = .ok (.iconst 1, 1) := by decide +kernel
theorem dX10_meet_101 : decode cX10_meet 101 = .ok (.iaload, 1) := by decide +kernel
theorem dX10_meet_102 : decode cX10_meet 102 = .ok (.if_icmp .eq 7, 3) := by decide +kernel
theorem dX10_meet_105 : decode cX10_meet 105 = .ok (.iconst 1, 1) := by decide +kernel
theorem dX10_meet_106 : decode cX10_meet 106 = .ok (.goto 4, 3) := by decide +kernel
theorem dX10_meet_109 : decode cX10_meet 109 = .ok (.iconst 0, 1) := by decide +kernel
theorem dX10_meet_110 : decode cX10_meet 110 = .ok (.iconst 2, 1) := by decide +kernel
theorem dX10_meet_111 : decode cX10_meet 111 = .ok (.invokevirtual 36, 3) := by decide +kernel
theorem dX10_meet_114 : decode cX10_meet 114 = .ok (.ifCond .eq 5, 3) := by decide +kernel
theorem dX10_meet_117 : decode cX10_meet 117 = .ok (.iconst 0, 1) := by decide +kernel
theorem dX10_meet_118 : decode cX10_meet 118 = .ok (.ireturn, 1) := by decide +kernel
theorem dX10_meet_119 : decode cX10_meet 119 = .ok (.aload 4, 2) := by decide +kernel
theorem dX10_meet_121 : decode cX10_meet 121 = .ok (.getfield 237, 3) := by decide +kernel
theorem dX10_meet_124 : decode cX10_meet 124 = .ok (.ifCond .ne 9, 3) := by decide +kernel
theorem dX10_meet_127 : decode cX10_meet 127 = .ok (.aload_n 3, 1) := by decide +kernel
theorem dX10_meet_128 : decode cX10_meet 128 = .ok (.iconst 3, 1) := by decide +kernel
theorem dX10_meet_129 : decode cX10_meet 129 = .ok (.iaload, 1) := by decide +kernel
theorem dX10_meet_130 : decode cX10_meet 130 = .ok (.goto 8, 3) := by decide +kernel
theorem dX10_meet_133 : decode cX10_meet 133 = .ok (.aload_n 3, 1) := by decide +kernel
theorem dX10_meet_134 : decode cX10_meet 134 = .ok (.iconst 3, 1) := by decide +kernel
theorem dX10_meet_135 : decode cX10_meet 135 = .ok (.iaload, 1) := by decide +kernel
theorem dX10_meet_136 : decode cX10_meet 136 = .ok (.iconst 2, 1) := by decide +kernel
theorem dX10_meet_137 : decode cX10_meet 137 = .ok (.idiv, 1) := by decide +kernel
theorem dX10_meet_138 : decode cX10_meet 138 = .ok (.istore 5, 2) := by decide +kernel
theorem dX10_meet_140 : decode cX10_meet 140 = .ok (.iconst 0, 1) := by decide +kernel
theorem dX10_meet_141 : decode cX10_meet 141 = .ok (.iload 5, 2) := by decide +kernel
theorem dX10_meet_143 : decode cX10_meet 143 = .ok (.iconst 0, 1) := by decide +kernel
theorem dX10_meet_144 : decode cX10_meet 144 = .ok (.aload_n 0, 1) := by decide +kernel
theorem dX10_meet_145 : decode cX10_meet 145 = .ok (.getfield 131, 3) := by decide +kernel
theorem dX10_meet_148 : decode cX10_meet 148 = .ok (.aload_n 3, 1) := by decide +kernel
theorem dX10_meet_149 : decode cX10_meet 149 = .ok (.iconst 2, 1) := by decide +kernel
theorem dX10_meet_150 : decode cX10_meet 150 = .ok (.iaload, 1) := by decide +kernel
theorem dX10_meet_151 : decode cX10_meet 151 = .ok (.isub, 1) := by decide +kernel
theorem dX10_meet_152 : decode cX10_meet 152 = .ok (.invokestatic 163, 3) := by decide +kernel
theorem dX10_meet_155 : decode cX10_meet 155 = .ok (.isub, 1) := by decide +kernel
theorem dX10_meet_156 : decode cX10_meet 156 = .ok (.invokestatic 163, 3) := by decide +kernel
theorem dX10_meet_159 : decode cX10_meet 159 = .ok (.istore 6, 2) := by decide +kernel
theorem dX10_meet_161 : decode cX10_meet 161 = .ok (.aload_n 3, 1) := by decide +kernel
theorem dX10_meet_162 : decode cX10_meet 162 = .ok (.iconst 4, 1) := by decide +kernel
theorem dX10_meet_163 : decode cX10_meet 163 = .ok (.iconst 1, 1) := by decide +kernel
theorem dX10_meet_164 : decode cX10_meet 164 = .ok (.iastore, 1) := by decide +kernel
theorem dX10_meet_165 : decode cX10_meet 165 = .ok (.aload 4, 2) := by decide +kernel
theorem dX10_meet_167 : decode cX10_meet 167 = .ok (.bipush 6, 2) := by decide +kernel
theorem dX10_meet_169 : decode cX10_meet 169 = .ok (.putfield 124, 3) := by decide +kernel
theorem dX10_meet_172 : decode cX10_meet 172 = .ok (.aload_n 0, 1) := by decide +kernel
theorem dX10_meet_173 : decode cX10_meet 173 = .ok (.dup, 1) := by decide +kernel
theorem dX10_meet_174 : decode cX10_meet 174 = .ok (.getfield 264, 3) := by decide +kernel
theorem dX10_meet_177 : decode cX10_meet 177 = .ok (.iload 6, 2) := by decide +kernel
theorem dX10_meet_179 : decode cX10_meet 179 = .ok (.iadd, 1) := by decide +kernel
theorem dX10_meet_180 : decode cX10_meet 180 = .ok (.putfield 264, 3) := by decide +kernel
theorem dX10_meet_183 : decode cX10_meet 183 = .ok (.iload 6, 2) := by decide +kernel
theorem dX10_meet_185 : decode cX10_meet 185 = .ok (.ireturn, 1) := by decide +kernel
theorem dX10_toldOfPot_0 : decode cX10_toldOfPot 0 = .ok (.aload_n 0, 1) := by decide +kernel
theorem dX10_toldOfPot_1 : decode cX10_toldOfPot 1 = .ok (.getfield 19, 3) := by decide +kernel
theorem dX10_toldOfPot_4 : decode cX10_toldOfPot 4 = .ok (.iload_n 1, 1) := by decide +kernel
theorem dX10_toldOfPot_5 : decode cX10_toldOfPot 5 = .ok (.invokevirtual 58, 3) := by decide +kernel
theorem dX10_toldOfPot_8 : decode cX10_toldOfPot 8 = .ok (.checkcast 99, 3) := by decide +kernel
theorem dX10_toldOfPot_11 : decode cX10_toldOfPot 11 = .ok (.astore_n 3, 1) := by decide +kernel
theorem dX10_toldOfPot_12 : decode cX10_toldOfPot 12 = .ok (.bipush 8, 2) := by decide +kernel
theorem dX10_toldOfPot_14 : decode cX10_toldOfPot 14 = .ok (.newarray .int, 2) := by decide +kernel
theorem dX10_toldOfPot_16 : decode cX10_toldOfPot 16 = .ok (.dup, 1) := by decide +kernel
theorem dX10_toldOfPot_17 : decode cX10_toldOfPot 17 = .ok (.iconst 0, 1) := by decide +kernel
theorem dX10_toldOfPot_18 : decode cX10_toldOfPot 18 = .ok (.aload_n 3, 1) := by decide +kernel
theorem dX10_toldOfPot_19 : decode cX10_toldOfPot 19 = .ok (.getfield 124, 3) := by decide +kernel
theorem dX10_toldOfPot_22 : decode cX10_toldOfPot 22 = .ok (.iastore, 1) := by decide +kernel
theorem dX10_toldOfPot_23 : decode cX10_toldOfPot 23 = .ok (.dup, 1) := by decide +kernel
theorem dX10_toldOfPot_24 : decode cX10_toldOfPot 24 = .ok (.iconst 1, 1) := by decide +kernel
theorem dX10_toldOfPot_25 : decode cX10_toldOfPot 25 = .ok (.aload_n 3, 1) := by decide +kernel
theorem dX10_toldOfPot_26 : decode cX10_toldOfPot 26 = .ok (.getfield 144, 3) := by decide +kernel
theorem dX10_toldOfPot_29 : decode cX10_toldOfPot 29 = .ok (.iastore, 1) := by decide +kernel
theorem dX10_toldOfPot_30 : decode cX10_toldOfPot 30 = .ok (.dup, 1) := by decide +kernel
theorem dX10_toldOfPot_31 : decode cX10_toldOfPot 31 = .ok (.iconst 2, 1) := by decide +kernel
theorem dX10_toldOfPot_32 : decode cX10_toldOfPot 32 = .ok (.aload_n 3, 1) := by decide +kernel
theorem dX10_toldOfPot_33 : decode cX10_toldOfPot 33 = .ok (.getfield 237, 3) := by decide +kernel
theorem dX10_toldOfPot_36 : decode cX10_toldOfPot 36 = .ok (.iastore, 1) := by decide +kernel
theorem dX10_toldOfPot_37 : decode cX10_toldOfPot 37 = .ok (.dup, 1) := by decide +kernel
theorem dX10_toldOfPot_38 : decode cX10_toldOfPot 38 = .ok (.iconst 3, 1) := by decide +kernel
theorem dX10_toldOfPot_39 : decode cX10_toldOfPot 39 = .ok (.aload_n 3, 1) := by decide +kernel
theorem dX10_toldOfPot_40 : decode cX10_toldOfPot 40 = .ok (.getfield 150, 3) := by decide +kernel
theorem dX10_toldOfPot_43 : decode cX10_toldOfPot 43 = .ok (.iastore, 1) := by decide +kernel
theorem dX10_toldOfPot_44 : decode cX10_toldOfPot 44 = .ok (.dup, 1) := by decide +kernel
theorem dX10_toldOfPot_45 : decode cX10_toldOfPot 45 = .ok (.iconst 4, 1) := by decide +kernel
theorem dX10_toldOfPot_46 : decode cX10_toldOfPot 46 = .ok (.aload_n 3, 1) := by decide +kernel
theorem dX10_toldOfPot_47 : decode cX10_toldOfPot 47 = .ok (.getfield 153, 3) := by decide +kernel
theorem dX10_toldOfPot_50 : decode cX10_toldOfPot 50 = .ok (.iastore, 1) := by decide +kernel
theorem dX10_toldOfPot_51 : decode cX10_toldOfPot 51 = .ok (.dup, 1) := by decide +kernel
theorem dX10_toldOfPot_52 : decode cX10_toldOfPot 52 = .ok (.iconst 5, 1) := by decide +kernel
theorem dX10_toldOfPot_53 : decode cX10_toldOfPot 53 = .ok (.aload_n 3, 1) := by decide +kernel
theorem dX10_toldOfPot_54 : decode cX10_toldOfPot 54 = .ok (.getfield 257, 3) := by decide +kernel
theorem dX10_toldOfPot_57 : decode cX10_toldOfPot 57 = .ok (.iastore, 1) := by decide +kernel
theorem dX10_toldOfPot_58 : decode cX10_toldOfPot 58 = .ok (.dup, 1) := by decide +kernel
theorem dX10_toldOfPot_59 : decode cX10_toldOfPot 59 = .ok (.bipush 6, 2) := by decide +kernel
theorem dX10_toldOfPot_61 : decode cX10_toldOfPot 61 = .ok (.aload_n 0, 1) := by decide +kernel
theorem dX10_toldOfPot_62 : decode cX10_toldOfPot 62 = .ok (.aload_n 3, 1) := by decide +kernel
theorem dX10_toldOfPot_63 : decode cX10_toldOfPot 63 = .ok (.invokevirtual 260, 3) := by decide +kernel
theorem dX10_toldOfPot_66 : decode cX10_toldOfPot 66 = .ok (.iastore, 1) := by decide +kernel
theorem dX10_toldOfPot_67 : decode cX10_toldOfPot 67 = .ok (.dup, 1) := by decide +kernel
theorem dX10_toldOfPot_68 : decode cX10_toldOfPot 68 = .ok (.bipush 7, 2) := by decide +kernel
theorem dX10_toldOfPot_70 : decode cX10_toldOfPot 70 = .ok (.aload_n 3, 1) := by decide +kernel
theorem dX10_toldOfPot_71 : decode cX10_toldOfPot 71 = .ok (.getfield 107, 3) := by decide +kernel
theorem dX10_toldOfPot_74 : decode cX10_toldOfPot 74 = .ok (.invokestatic 127, 3) := by decide +kernel
theorem dX10_toldOfPot_77 : decode cX10_toldOfPot 77 = .ok (.iastore, 1) := by decide +kernel
theorem dX10_toldOfPot_78 : decode cX10_toldOfPot 78 = .ok (.astore 4, 2) := by decide +kernel
theorem dX10_toldOfPot_80 : decode cX10_toldOfPot 80 = .ok (.aload 4, 2) := by decide +kernel
theorem dX10_toldOfPot_82 : decode cX10_toldOfPot 82 = .ok (.iload_n 2, 1) := by decide +kernel
theorem dX10_toldOfPot_83 : decode cX10_toldOfPot 83 = .ok (.iaload, 1) := by decide +kernel
theorem dX10_toldOfPot_84 : decode cX10_toldOfPot 84 = .ok (.ireturn, 1) := by decide +kernel
theorem dX10_ofPot_0 : decode cX10_ofPot 0 = .ok (.aload_n 0, 1) := by decide +kernel
theorem dX10_ofPot_1 : decode cX10_ofPot 1 = .ok (.aload_n 0, 1) := by decide +kernel
theorem dX10_ofPot_2 : decode cX10_ofPot 2 = .ok (.iload_n 1, 1) := by decide +kernel
theorem dX10_ofPot_3 : decode cX10_ofPot 3 = .ok (.invokevirtual 104, 3) := by decide +kernel
theorem dX10_ofPot_6 : decode cX10_ofPot 6 = .ok (.iconst 1, 1) := by decide +kernel
theorem dX10_ofPot_7 : decode cX10_ofPot 7 = .ok (.invokevirtual 88, 3) := by decide +kernel
theorem dX10_ofPot_10 : decode cX10_ofPot 10 = .ok (.ifCond .ne 26, 3) := by decide +kernel
theorem dX10_ofPot_13 : decode cX10_ofPot 13 = .ok (.aload_n 0, 1) := by decide +kernel
theorem dX10_ofPot_14 : decode cX10_ofPot 14 = .ok (.iload_n 2, 1) := by decide +kernel
theorem dX10_ofPot_15 : decode cX10_ofPot 15 = .ok (.iconst 0, 1) := by decide +kernel
theorem dX10_ofPot_16 : decode cX10_ofPot 16 = .ok (.bipush 7, 2) := by decide +kernel
theorem dX10_ofPot_18 : decode cX10_ofPot 18 = .ok (.invokestatic 44, 3) := by decide +kernel
theorem dX10_ofPot_21 : decode cX10_ofPot 21 = .ok (.ifCond .ne 7, 3) := by decide +kernel
theorem dX10_ofPot_24 : decode cX10_ofPot 24 = .ok (.iconst 1, 1) := by decide +kernel
theorem dX10_ofPot_25 : decode cX10_ofPot 25 = .ok (.goto 4, 3) := by decide +kernel
theorem dX10_ofPot_28 : decode cX10_ofPot 28 = .ok (.iconst 0, 1) := by decide +kernel
theorem dX10_ofPot_29 : decode cX10_ofPot 29 = .ok (.iconst 2, 1) := by decide +kernel
theorem dX10_ofPot_30 : decode cX10_ofPot 30 = .ok (.invokevirtual 36, 3) := by decide +kernel
theorem dX10_ofPot_33 : decode cX10_ofPot 33 = .ok (.ifCond .eq 7, 3) := by decide +kernel
theorem dX10_ofPot_36 : decode cX10_ofPot 36 = .ok (.iconst 0, 1) := by decide +kernel
theorem dX10_ofPot_37 : decode cX10_ofPot 37 = .ok (.goto 9, 3) := by decide +kernel
theorem dX10_ofPot_40 : decode cX10_ofPot 40 = .ok (.aload_n 0, 1) := by decide +kernel
theorem dX10_ofPot_41 : decode cX10_ofPot 41 = .ok (.iload_n 1, 1) := by decide +kernel
theorem dX10_ofPot_42 : decode cX10_ofPot 42 = .ok (.iload_n 2, 1) := by decide +kernel
theorem dX10_ofPot_43 : decode cX10_ofPot 43 = .ok (.invokevirtual 267, 3) := by decide +kernel
theorem dX10_ofPot_46 : decode cX10_ofPot 46 = .ok (.ireturn, 1) := by decide +kernel
theorem dX10_water_0 : decode cX10_water 0 = .ok (.aload_n 0, 1) := by decide +kernel
theorem dX10_water_1 : decode cX10_water 1 = .ok (.aload_n 0, 1) := by decide +kernel
theorem dX10_water_2 : decode cX10_water 2 = .ok (.iload_n 1, 1) := by decide +kernel
theorem dX10_water_3 : decode cX10_water 3 = .ok (.invokevirtual 104, 3) := by decide +kernel
theorem dX10_water_6 : decode cX10_water 6 = .ok (.iconst 1, 1) := by decide +kernel
theorem dX10_water_7 : decode cX10_water 7 = .ok (.invokevirtual 88, 3) := by decide +kernel
theorem dX10_water_10 : decode cX10_water 10 = .ok (.ifCond .eq 7, 3) := by decide +kernel
theorem dX10_water_13 : decode cX10_water 13 = .ok (.dconst 0, 1) := by decide +kernel
theorem dX10_water_14 : decode cX10_water 14 = .ok (.goto 18, 3) := by decide +kernel
theorem dX10_water_17 : decode cX10_water 17 = .ok (.aload_n 0, 1) := by decide +kernel
theorem dX10_water_18 : decode cX10_water 18 = .ok (.getfield 19, 3) := by decide +kernel
theorem dX10_water_21 : decode cX10_water 21 = .ok (.iload_n 1, 1) := by decide +kernel
theorem dX10_water_22 : decode cX10_water 22 = .ok (.invokevirtual 58, 3) := by decide +kernel
theorem dX10_water_25 : decode cX10_water 25 = .ok (.checkcast 99, 3) := by decide +kernel
theorem dX10_water_28 : decode cX10_water 28 = .ok (.getfield 270, 3) := by decide +kernel
theorem dX10_water_31 : decode cX10_water 31 = .ok (.f2d, 1) := by decide +kernel
theorem dX10_water_32 : decode cX10_water 32 = .ok (.dreturn, 1) := by decide +kernel
theorem dX10_toldOfGlaze_0 : decode cX10_toldOfGlaze 0 = .ok (.aload_n 0, 1) := by decide +kernel
theorem dX10_toldOfGlaze_1 : decode cX10_toldOfGlaze 1 = .ok (.getfield 16, 3) := by decide +kernel
theorem dX10_toldOfGlaze_4 : decode cX10_toldOfGlaze 4 = .ok (.iload_n 1, 1) := by decide +kernel
theorem dX10_toldOfGlaze_5 : decode cX10_toldOfGlaze 5 = .ok (.invokevirtual 58, 3) := by decide +kernel
theorem dX10_toldOfGlaze_8 : decode cX10_toldOfGlaze 8 = .ok (.checkcast 62, 3) := by decide +kernel
theorem dX10_toldOfGlaze_11 : decode cX10_toldOfGlaze 11 = .ok (.astore_n 3, 1) := by decide +kernel
theorem dX10_toldOfGlaze_12 : decode cX10_toldOfGlaze 12 = .ok (.iload_n 2, 1) := by decide +kernel
theorem dX10_toldOfGlaze_13 : decode cX10_toldOfGlaze 13 = .ok (.ifCond .ne 11, 3) := by decide +kernel
theorem dX10_toldOfGlaze_16 : decode cX10_toldOfGlaze 16 = .ok (.aload_n 0, 1) := by decide +kernel
theorem dX10_toldOfGlaze_17 : decode cX10_toldOfGlaze 17 = .ok (.iload_n 1, 1) := by decide +kernel
theorem dX10_toldOfGlaze_18 : decode cX10_toldOfGlaze 18 = .ok (.invokevirtual 230, 3) := by decide +kernel
theorem dX10_toldOfGlaze_21 : decode cX10_toldOfGlaze 21 = .ok (.goto 38, 3) := by decide +kernel
theorem dX10_toldOfGlaze_24 : decode cX10_toldOfGlaze 24 = .ok (.iload_n 2, 1) := by decide +kernel
theorem dX10_toldOfGlaze_25 : decode cX10_toldOfGlaze 25 = .ok (.iconst 1, 1) := by decide +kernel
theorem dX10_toldOfGlaze_26 : decode cX10_toldOfGlaze 26 = .ok (.if_icmp .ne 27, 3) := by decide +kernel
theorem dX10_toldOfGlaze_29 : decode cX10_toldOfGlaze 29 = .ok (.aload_n 3, 1) := by decide +kernel
theorem dX10_toldOfGlaze_30 : decode cX10_toldOfGlaze 30 = .ok (.iconst 2, 1) := by decide +kernel
theorem dX10_toldOfGlaze_31 : decode cX10_toldOfGlaze 31 = .ok (.iaload, 1) := by decide +kernel
theorem dX10_toldOfGlaze_32 : decode cX10_toldOfGlaze 32 = .ok (.ifCond .ne 9, 3) := by decide +kernel
theorem dX10_toldOfGlaze_35 : decode cX10_toldOfGlaze 35 = .ok (.ldc2_w 273, 3) := by decide +kernel
theorem dX10_toldOfGlaze_38 : decode cX10_toldOfGlaze 38 = .ok (.goto 21, 3) := by decide +kernel
theorem dX10_toldOfGlaze_41 : decode cX10_toldOfGlaze 41 = .ok (.aload_n 3, 1) := by decide +kernel
theorem dX10_toldOfGlaze_42 : decode cX10_toldOfGlaze 42 = .ok (.iconst 3, 1) := by decide +kernel
theorem dX10_toldOfGlaze_43 : decode cX10_toldOfGlaze 43 = .ok (.iaload, 1) := by decide +kernel
theorem dX10_toldOfGlaze_44 : decode cX10_toldOfGlaze 44 = .ok (.i2d, 1) := by decide +kernel
theorem dX10_toldOfGlaze_45 : decode cX10_toldOfGlaze 45 = .ok (.aload_n 3, 1) := by decide +kernel
theorem dX10_toldOfGlaze_46 : decode cX10_toldOfGlaze 46 = .ok (.iconst 2, 1) := by decide +kernel
theorem dX10_toldOfGlaze_47 : decode cX10_toldOfGlaze 47 = .ok (.iaload, 1) := by decide +kernel
theorem dX10_toldOfGlaze_48 : decode cX10_toldOfGlaze 48 = .ok (.i2d, 1) := by decide +kernel
theorem dX10_toldOfGlaze_49 : decode cX10_toldOfGlaze 49 = .ok (.ddiv, 1) := by decide +kernel
theorem dX10_toldOfGlaze_50 : decode cX10_toldOfGlaze 50 = .ok (.goto 9, 3) := by decide +kernel
theorem dX10_toldOfGlaze_53 : decode cX10_toldOfGlaze 53 = .ok (.aload_n 0, 1) := by decide +kernel
theorem dX10_toldOfGlaze_54 : decode cX10_toldOfGlaze 54 = .ok (.iload_n 1, 1) := by decide +kernel
theorem dX10_toldOfGlaze_55 : decode cX10_toldOfGlaze 55 = .ok (.invokevirtual 147, 3) := by decide +kernel
theorem dX10_toldOfGlaze_58 : decode cX10_toldOfGlaze 58 = .ok (.i2d, 1) := by decide +kernel
theorem dX10_toldOfGlaze_59 : decode cX10_toldOfGlaze 59 = .ok (.dreturn, 1) := by decide +kernel
theorem dX10_ofGlaze_0 : decode cX10_ofGlaze 0 = .ok (.aload_n 0, 1) := by decide +kernel
theorem dX10_ofGlaze_1 : decode cX10_ofGlaze 1 = .ok (.aload_n 0, 1) := by decide +kernel
theorem dX10_ofGlaze_2 : decode cX10_ofGlaze 2 = .ok (.iload_n 1, 1) := by decide +kernel
theorem dX10_ofGlaze_3 : decode cX10_ofGlaze 3 = .ok (.invokevirtual 141, 3) := by decide +kernel
theorem dX10_ofGlaze_6 : decode cX10_ofGlaze 6 = .ok (.iconst 1, 1) := by decide +kernel
theorem dX10_ofGlaze_7 : decode cX10_ofGlaze 7 = .ok (.invokevirtual 88, 3) := by decide +kernel
theorem dX10_ofGlaze_10 : decode cX10_ofGlaze 10 = .ok (.ifCond .ne 25, 3) := by decide +kernel
theorem dX10_ofGlaze_13 : decode cX10_ofGlaze 13 = .ok (.aload_n 0, 1) := by decide +kernel
theorem dX10_ofGlaze_14 : decode cX10_ofGlaze 14 = .ok (.iload_n 2, 1) := by decide +kernel
theorem dX10_ofGlaze_15 : decode cX10_ofGlaze 15 = .ok (.iconst 0, 1) := by decide +kernel
theorem dX10_ofGlaze_16 : decode cX10_ofGlaze 16 = .ok (.iconst 2, 1) := by decide +kernel
theorem dX10_ofGlaze_17 : decode cX10_ofGlaze 17 = .ok (.invokestatic 44, 3) := by decide +kernel
theorem dX10_ofGlaze_20 : decode cX10_ofGlaze 20 = .ok (.ifCond .ne 7, 3) := by decide +kernel
theorem dX10_ofGlaze_23 : decode cX10_ofGlaze 23 = .ok (.iconst 1, 1) := by decide +kernel
theorem dX10_ofGlaze_24 : decode cX10_ofGlaze 24 = .ok (.goto 4, 3) := by decide +kernel
theorem dX10_ofGlaze_27 : decode cX10_ofGlaze 27 = .ok (.iconst 0, 1) := by decide +kernel
theorem dX10_ofGlaze_28 : decode cX10_ofGlaze 28 = .ok (.iconst 2, 1) := by decide +kernel
theorem dX10_ofGlaze_29 : decode cX10_ofGlaze 29 = .ok (.invokevirtual 36, 3) := by decide +kernel
theorem dX10_ofGlaze_32 : decode cX10_ofGlaze 32 = .ok (.ifCond .eq 7, 3) := by decide +kernel
theorem dX10_ofGlaze_35 : decode cX10_ofGlaze 35 = .ok (.dconst 0, 1) := by decide +kernel
theorem dX10_ofGlaze_36 : decode cX10_ofGlaze 36 = .ok (.goto 9, 3) := by decide +kernel
theorem dX10_ofGlaze_39 : decode cX10_ofGlaze 39 = .ok (.aload_n 0, 1) := by decide +kernel
theorem dX10_ofGlaze_40 : decode cX10_ofGlaze 40 = .ok (.iload_n 1, 1) := by decide +kernel
theorem dX10_ofGlaze_41 : decode cX10_ofGlaze 41 = .ok (.iload_n 2, 1) := by decide +kernel
theorem dX10_ofGlaze_42 : decode cX10_ofGlaze 42 = .ok (.invokevirtual 275, 3) := by decide +kernel
theorem dX10_ofGlaze_45 : decode cX10_ofGlaze 45 = .ok (.dreturn, 1) := by decide +kernel
theorem dX10_kiln_0 : decode cX10_kiln 0 = .ok (.aload_n 0, 1) := by decide +kernel
theorem dX10_kiln_1 : decode cX10_kiln 1 = .ok (.iload_n 1, 1) := by decide +kernel
theorem dX10_kiln_2 : decode cX10_kiln 2 = .ok (.iconst 0, 1) := by decide +kernel
theorem dX10_kiln_3 : decode cX10_kiln 3 = .ok (.iconst 5, 1) := by decide +kernel
theorem dX10_kiln_4 : decode cX10_kiln 4 = .ok (.invokestatic 44, 3) := by decide +kernel
theorem dX10_kiln_7 : decode cX10_kiln 7 = .ok (.ifCond .ne 7, 3) := by decide +kernel
theorem dX10_kiln_10 : decode cX10_kiln 10 = .ok (.iconst 1, 1) := by decide +kernel
theorem dX10_kiln_11 : decode cX10_kiln 11 = .ok (.goto 4, 3) := by decide +kernel
theorem dX10_kiln_14 : decode cX10_kiln 14 = .ok (.iconst 0, 1) := by decide +kernel
theorem dX10_kiln_15 : decode cX10_kiln 15 = .ok (.iconst 1, 1) := by decide +kernel
theorem dX10_kiln_16 : decode cX10_kiln 16 = .ok (.invokevirtual 88, 3) := by decide +kernel
theorem dX10_kiln_19 : decode cX10_kiln 19 = .ok (.ifCond .eq 5, 3) := by decide +kernel
theorem dX10_kiln_22 : decode cX10_kiln 22 = .ok (.dconst 0, 1) := by decide +kernel
theorem dX10_kiln_23 : decode cX10_kiln 23 = .ok (.dreturn, 1) := by decide +kernel
theorem dX10_kiln_24 : decode cX10_kiln 24 = .ok (.iload_n 1, 1) := by decide +kernel
theorem dX10_kiln_25 : decode cX10_kiln 25 = .ok (.ifCond .ne 13, 3) := by decide +kernel
theorem dX10_kiln_28 : decode cX10_kiln 28 = .ok (.aload_n 0, 1) := by decide +kernel
theorem dX10_kiln_29 : decode cX10_kiln 29 = .ok (.getfield 28, 3) := by decide +kernel
theorem dX10_kiln_32 : decode cX10_kiln 32 = .ok (.getfield 52, 3) := by decide +kernel
theorem dX10_kiln_35 : decode cX10_kiln 35 = .ok (.goto 45, 3) := by decide +kernel
theorem dX10_kiln_38 : decode cX10_kiln 38 = .ok (.iload_n 1, 1) := by decide +kernel
theorem dX10_kiln_39 : decode cX10_kiln 39 = .ok (.iconst 1, 1) := by decide +kernel
theorem dX10_kiln_40 : decode cX10_kiln 40 = .ok (.if_icmp .ne 14, 3) := by decide +kernel
theorem dX10_kiln_43 : decode cX10_kiln 43 = .ok (.aload_n 0, 1) := by decide +kernel
theorem dX10_kiln_44 : decode cX10_kiln 44 = .ok (.getfield 28, 3) := by decide +kernel
theorem dX10_kiln_47 : decode cX10_kiln 47 = .ok (.getfield 252, 3) := by decide +kernel
theorem dX10_kiln_50 : decode cX10_kiln 50 = .ok (.f2d, 1) := by decide +kernel
theorem dX10_kiln_51 : decode cX10_kiln 51 = .ok (.goto 29, 3) := by decide +kernel
theorem dX10_kiln_54 : decode cX10_kiln 54 = .ok (.iload_n 1, 1) := by decide +kernel
theorem dX10_kiln_55 : decode cX10_kiln 55 = .ok (.iconst 2, 1) := by decide +kernel
theorem dX10_kiln_56 : decode cX10_kiln 56 = .ok (.if_icmp .ne 13, 3) := by decide +kernel
theorem dX10_kiln_59 : decode cX10_kiln 59 = .ok (.aload_n 0, 1) := by decide +kernel
theorem dX10_kiln_60 : decode cX10_kiln 60 = .ok (.getfield 28, 3) := by decide +kernel
theorem dX10_kiln_63 : decode cX10_kiln 63 = .ok (.invokevirtual 279, 3) := by decide +kernel
theorem dX10_kiln_66 : decode cX10_kiln 66 = .ok (.goto 14, 3) := by decide +kernel
theorem dX10_kiln_69 : decode cX10_kiln 69 = .ok (.aload_n 0, 1) := by decide +kernel
theorem dX10_kiln_70 : decode cX10_kiln 70 = .ok (.getfield 28, 3) := by decide +kernel
theorem dX10_kiln_73 : decode cX10_kiln 73 = .ok (.getfield 249, 3) := by decide +kernel
theorem dX10_kiln_76 : decode cX10_kiln 76 = .ok (.iload_n 1, 1) := by decide +kernel
theorem dX10_kiln_77 : decode cX10_kiln 77 = .ok (.iconst 3, 1) := by decide +kernel
theorem dX10_kiln_78 : decode cX10_kiln 78 = .ok (.isub, 1) := by decide +kernel
theorem dX10_kiln_79 : decode cX10_kiln 79 = .ok (.daload, 1) := by decide +kernel
theorem dX10_kiln_80 : decode cX10_kiln 80 = .ok (.dreturn, 1) := by decide +kernel
theorem dX10_toldOfShelf_0 : decode cX10_toldOfShelf 0 = .ok (.iconst 4, 1) := by decide +kernel
theorem dX10_toldOfShelf_1 : decode cX10_toldOfShelf 1 = .ok (.newarray .int, 2) := by decide +kernel
theorem dX10_toldOfShelf_3 : decode cX10_toldOfShelf 3 = .ok (.dup, 1) := by decide +kernel
theorem dX10_toldOfShelf_4 : decode cX10_toldOfShelf 4 = .ok (.iconst 0, 1) := by decide +kernel
theorem dX10_toldOfShelf_5 : decode cX10_toldOfShelf 5 = .ok (.aload_n 0, 1) := by decide +kernel
theorem dX10_toldOfShelf_6 : decode cX10_toldOfShelf 6 = .ok (.getfield 28, 3) := by decide +kernel
theorem dX10_toldOfShelf_9 : decode cX10_toldOfShelf 9 = .ok (.iload_n 1, 1) := by decide +kernel
theorem dX10_toldOfShelf_10 : decode cX10_toldOfShelf 10 = .ok (.invokevirtual 242, 3) := by decide +kernel
theorem dX10_toldOfShelf_13 : decode cX10_toldOfShelf 13 = .ok (.iastore, 1) := by decide +kernel
theorem dX10_toldOfShelf_14 : decode cX10_toldOfShelf 14 = .ok (.dup, 1) := by decide +kernel
theorem dX10_toldOfShelf_15 : decode cX10_toldOfShelf 15 = .ok (.iconst 1, 1) := by decide +kernel
theorem dX10_toldOfShelf_16 : decode cX10_toldOfShelf 16 = .ok (.aload_n 0, 1) := by decide +kernel
theorem dX10_toldOfShelf_17 : decode cX10_toldOfShelf 17 = .ok (.iload_n 1, 1) := by decide +kernel
theorem dX10_toldOfShelf_18 : decode cX10_toldOfShelf 18 = .ok (.invokevirtual 179, 3) := by decide +kernel
theorem dX10_toldOfShelf_21 : decode cX10_toldOfShelf 21 = .ok (.iastore, 1) := by decide +kernel
theorem dX10_toldOfShelf_22 : decode cX10_toldOfShelf 22 = .ok (.dup, 1) := by decide +kernel
theorem dX10_toldOfShelf_23 : decode cX10_toldOfShelf 23 = .ok (.iconst 2, 1) := by decide +kernel
theorem dX10_toldOfShelf_24 : decode cX10_toldOfShelf 24 = .ok (.aload_n 0, 1) := by decide +kernel
theorem dX10_toldOfShelf_25 : decode cX10_toldOfShelf 25 = .ok (.iload_n 1, 1) := by decide +kernel
theorem dX10_toldOfShelf_26 : decode cX10_toldOfShelf 26 = .ok (.invokevirtual 201, 3) := by decide +kernel
theorem dX10_toldOfShelf_29 : decode cX10_toldOfShelf 29 = .ok (.iastore, 1) := by decide +kernel
theorem dX10_toldOfShelf_30 : decode cX10_toldOfShelf 30 = .ok (.dup, 1) := by decide +kernel
theorem dX10_toldOfShelf_31 : decode cX10_toldOfShelf 31 = .ok (.iconst 3, 1) := by decide +kernel
theorem dX10_toldOfShelf_32 : decode cX10_toldOfShelf 32 = .ok (.aload_n 0, 1) := by decide +kernel
theorem dX10_toldOfShelf_33 : decode cX10_toldOfShelf 33 = .ok (.iload_n 1, 1) := by decide +kernel
theorem dX10_toldOfShelf_34 : decode cX10_toldOfShelf 34 = .ok (.invokevirtual 283, 3) := by decide +kernel
theorem dX10_toldOfShelf_37 : decode cX10_toldOfShelf 37 = .ok (.iastore, 1) := by decide +kernel
theorem dX10_toldOfShelf_38 : decode cX10_toldOfShelf 38 = .ok (.astore_n 3, 1) := by decide +kernel
theorem dX10_toldOfShelf_39 : decode cX10_toldOfShelf 39 = .ok (.aload_n 3, 1) := by decide +kernel
theorem dX10_toldOfShelf_40 : decode cX10_toldOfShelf 40 = .ok (.iload_n 2, 1) := by decide +kernel
theorem dX10_toldOfShelf_41 : decode cX10_toldOfShelf 41 = .ok (.iaload, 1) := by decide +kernel
theorem dX10_toldOfShelf_42 : decode cX10_toldOfShelf 42 = .ok (.ireturn, 1) := by decide +kernel
theorem dX10_ofShelf_0 : decode cX10_ofShelf 0 = .ok (.aload_n 0, 1) := by decide +kernel
theorem dX10_ofShelf_1 : decode cX10_ofShelf 1 = .ok (.iload_n 1, 1) := by decide +kernel
theorem dX10_ofShelf_2 : decode cX10_ofShelf 2 = .ok (.invokestatic 167, 3) := by decide +kernel
theorem dX10_ofShelf_5 : decode cX10_ofShelf 5 = .ok (.iconst 1, 1) := by decide +kernel
theorem dX10_ofShelf_6 : decode cX10_ofShelf 6 = .ok (.invokevirtual 88, 3) := by decide +kernel
theorem dX10_ofShelf_9 : decode cX10_ofShelf 9 = .ok (.ifCond .ne 25, 3) := by decide +kernel
theorem dX10_ofShelf_12 : decode cX10_ofShelf 12 = .ok (.aload_n 0, 1) := by decide +kernel
theorem dX10_ofShelf_13 : decode cX10_ofShelf 13 = .ok (.iload_n 2, 1) := by decide +kernel
theorem dX10_ofShelf_14 : decode cX10_ofShelf 14 = .ok (.iconst 0, 1) := by decide +kernel
theorem dX10_ofShelf_15 : decode cX10_ofShelf 15 = .ok (.iconst 3, 1) := by decide +kernel
theorem dX10_ofShelf_16 : decode cX10_ofShelf 16 = .ok (.invokestatic 44, 3) := by decide +kernel
theorem dX10_ofShelf_19 : decode cX10_ofShelf 19 = .ok (.ifCond .ne 7, 3) := by decide +kernel
theorem dX10_ofShelf_22 : decode cX10_ofShelf 22 = .ok (.iconst 1, 1) := by decide +kernel
theorem dX10_ofShelf_23 : decode cX10_ofShelf 23 = .ok (.goto 4, 3) := by decide +kernel
theorem dX10_ofShelf_26 : decode cX10_ofShelf 26 = .ok (.iconst 0, 1) := by decide +kernel
theorem dX10_ofShelf_27 : decode cX10_ofShelf 27 = .ok (.iconst 2, 1) := by decide +kernel
theorem dX10_ofShelf_28 : decode cX10_ofShelf 28 = .ok (.invokevirtual 36, 3) := by decide +kernel
theorem dX10_ofShelf_31 : decode cX10_ofShelf 31 = .ok (.ifCond .eq 7, 3) := by decide +kernel
theorem dX10_ofShelf_34 : decode cX10_ofShelf 34 = .ok (.iconst 0, 1) := by decide +kernel
theorem dX10_ofShelf_35 : decode cX10_ofShelf 35 = .ok (.goto 9, 3) := by decide +kernel
theorem dX10_ofShelf_38 : decode cX10_ofShelf 38 = .ok (.aload_n 0, 1) := by decide +kernel
theorem dX10_ofShelf_39 : decode cX10_ofShelf 39 = .ok (.iload_n 1, 1) := by decide +kernel
theorem dX10_ofShelf_40 : decode cX10_ofShelf 40 = .ok (.iload_n 2, 1) := by decide +kernel
theorem dX10_ofShelf_41 : decode cX10_ofShelf 41 = .ok (.invokevirtual 286, 3) := by decide +kernel
theorem dX10_ofShelf_44 : decode cX10_ofShelf 44 = .ok (.ireturn, 1) := by decide +kernel
theorem dX10_count_0 : decode cX10_count 0 = .ok (.iconst 0, 1) := by decide +kernel
theorem dX10_count_1 : decode cX10_count 1 = .ok (.istore_n 2, 1) := by decide +kernel
theorem dX10_count_2 : decode cX10_count 2 = .ok (.aload_n 0, 1) := by decide +kernel
theorem dX10_count_3 : decode cX10_count 3 = .ok (.getfield 22, 3) := by decide +kernel
theorem dX10_count_6 : decode cX10_count 6 = .ok (.invokevirtual 110, 3) := by decide +kernel
theorem dX10_count_9 : decode cX10_count 9 = .ok (.astore_n 3, 1) := by decide +kernel
theorem dX10_count_10 : decode cX10_count 10 = .ok (.aload_n 3, 1) := by decide +kernel
theorem dX10_count_11 : decode cX10_count 11 = .ok (.invokeinterface 114 1, 5) := by decide +kernel
theorem dX10_count_16 : decode cX10_count 16 = .ok (.ifCond .eq 26, 3) := by decide +kernel
theorem dX10_count_19 : decode cX10_count 19 = .ok (.aload_n 3, 1) := by decide +kernel
theorem dX10_count_20 : decode cX10_count 20 = .ok (.invokeinterface 120 1, 5) := by decide +kernel
theorem dX10_count_25 : decode cX10_count 25 = .ok (.checkcast 62, 3) := by decide +kernel
theorem dX10_count_28 : decode cX10_count 28 = .ok (.astore 4, 2) := by decide +kernel
theorem dX10_count_30 : decode cX10_count 30 = .ok (.iload_n 2, 1) := by decide +kernel
theorem dX10_count_31 : decode cX10_count 31 = .ok (.iconst 1, 1) := by decide +kernel
theorem dX10_count_32 : decode cX10_count 32 = .ok (.aload 4, 2) := by decide +kernel
theorem dX10_count_34 : decode cX10_count 34 = .ok (.iconst 4, 1) := by decide +kernel
theorem dX10_count_35 : decode cX10_count 35 = .ok (.iaload, 1) := by decide +kernel
theorem dX10_count_36 : decode cX10_count 36 = .ok (.isub, 1) := by decide +kernel
theorem dX10_count_37 : decode cX10_count 37 = .ok (.iadd, 1) := by decide +kernel
theorem dX10_count_38 : decode cX10_count 38 = .ok (.istore_n 2, 1) := by decide +kernel
theorem dX10_count_39 : decode cX10_count 39 = .ok (.goto (-29), 3) := by decide +kernel
theorem dX10_count_42 : decode cX10_count 42 = .ok (.bipush 16, 2) := by decide +kernel
theorem dX10_count_44 : decode cX10_count 44 = .ok (.newarray .int, 2) := by decide +kernel
theorem dX10_count_46 : decode cX10_count 46 = .ok (.dup, 1) := by decide +kernel
theorem dX10_count_47 : decode cX10_count 47 = .ok (.iconst 0, 1) := by decide +kernel
theorem dX10_count_48 : decode cX10_count 48 = .ok (.aload_n 0, 1) := by decide +kernel
theorem dX10_count_49 : decode cX10_count 49 = .ok (.getfield 131, 3) := by decide +kernel
theorem dX10_count_52 : decode cX10_count 52 = .ok (.iastore, 1) := by decide +kernel
theorem dX10_count_53 : decode cX10_count 53 = .ok (.dup, 1) := by decide +kernel
theorem dX10_count_54 : decode cX10_count 54 = .ok (.iconst 1, 1) := by decide +kernel
theorem dX10_count_55 : decode cX10_count 55 = .ok (.aload_n 0, 1) := by decide +kernel
theorem dX10_count_56 : decode cX10_count 56 = .ok (.getfield 28, 3) := by decide +kernel
theorem dX10_count_59 : decode cX10_count 59 = .ok (.getfield 289, 3) := by decide +kernel
theorem dX10_count_62 : decode cX10_count 62 = .ok (.iastore, 1) := by decide +kernel
theorem dX10_count_63 : decode cX10_count 63 = .ok (.dup, 1) := by decide +kernel
theorem dX10_count_64 : decode cX10_count 64 = .ok (.iconst 2, 1) := by decide +kernel
theorem dX10_count_65 : decode cX10_count 65 = .ok (.aload_n 0, 1) := by decide +kernel
theorem dX10_count_66 : decode cX10_count 66 = .ok (.getfield 28, 3) := by decide +kernel
theorem dX10_count_69 : decode cX10_count 69 = .ok (.getfield 48, 3) := by decide +kernel
theorem dX10_count_72 : decode cX10_count 72 = .ok (.invokestatic 127, 3) := by decide +kernel
theorem dX10_count_75 : decode cX10_count 75 = .ok (.iastore, 1) := by decide +kernel
theorem dX10_count_76 : decode cX10_count 76 = .ok (.dup, 1) := by decide +kernel
theorem dX10_count_77 : decode cX10_count 77 = .ok (.iconst 3, 1) := by decide +kernel
theorem dX10_count_78 : decode cX10_count 78 = .ok (.aload_n 0, 1) := by decide +kernel
theorem dX10_count_79 : decode cX10_count 79 = .ok (.getfield 28, 3) := by decide +kernel
theorem dX10_count_82 : decode cX10_count 82 = .ok (.getfield 48, 3) := by decide +kernel
theorem dX10_count_85 : decode cX10_count 85 = .ok (.ifCond .eq 13, 3) := by decide +kernel
theorem dX10_count_88 : decode cX10_count 88 = .ok (.aload_n 0, 1) := by decide +kernel
theorem dX10_count_89 : decode cX10_count 89 = .ok (.getfield 28, 3) := by decide +kernel
theorem dX10_count_92 : decode cX10_count 92 = .ok (.getfield 195, 3) := by decide +kernel
theorem dX10_count_95 : decode cX10_count 95 = .ok (.goto 4, 3) := by decide +kernel
theorem dX10_count_98 : decode cX10_count 98 = .ok (.iconst (-1), 1) := by decide +kernel
theorem dX10_count_99 : decode cX10_count 99 = .ok (.iastore, 1) := by decide +kernel
theorem dX10_count_100 : decode cX10_count 100 = .ok (.dup, 1) := by decide +kernel
theorem dX10_count_101 : decode cX10_count 101 = .ok (.iconst 4, 1) := by decide +kernel
theorem dX10_count_102 : decode cX10_count 102 = .ok (.aload_n 0, 1) := by decide +kernel
theorem dX10_count_103 : decode cX10_count 103 = .ok (.getfield 28, 3) := by decide +kernel
theorem dX10_count_106 : decode cX10_count 106 = .ok (.getfield 48, 3) := by decide +kernel
theorem dX10_count_109 : decode cX10_count 109 = .ok (.ifCond .eq 13, 3) := by decide +kernel
theorem dX10_count_112 : decode cX10_count 112 = .ok (.aload_n 0, 1) := by decide +kernel
theorem dX10_count_113 : decode cX10_count 113 = .ok (.getfield 28, 3) := by decide +kernel
theorem dX10_count_116 : decode cX10_count 116 = .ok (.getfield 198, 3) := by decide +kernel
theorem dX10_count_119 : decode cX10_count 119 = .ok (.goto 4, 3) := by decide +kernel
theorem dX10_count_122 : decode cX10_count 122 = .ok (.iconst 0, 1) := by decide +kernel
theorem dX10_count_123 : decode cX10_count 123 = .ok (.iastore, 1) := by decide +kernel
theorem dX10_count_124 : decode cX10_count 124 = .ok (.dup, 1) := by decide +kernel
theorem dX10_count_125 : decode cX10_count 125 = .ok (.iconst 5, 1) := by decide +kernel
theorem dX10_count_126 : decode cX10_count 126 = .ok (.aload_n 0, 1) := by decide +kernel
theorem dX10_count_127 : decode cX10_count 127 = .ok (.getfield 28, 3) := by decide +kernel
theorem dX10_count_130 : decode cX10_count 130 = .ok (.getfield 186, 3) := by decide +kernel
theorem dX10_count_133 : decode cX10_count 133 = .ok (.invokevirtual 40, 3) := by decide +kernel
theorem dX10_count_136 : decode cX10_count 136 = .ok (.iastore, 1) := by decide +kernel
theorem dX10_count_137 : decode cX10_count 137 = .ok (.dup, 1) := by decide +kernel
theorem dX10_count_138 : decode cX10_count 138 = .ok (.bipush 6, 2) := by decide +kernel
theorem dX10_count_140 : decode cX10_count 140 = .ok (.aload_n 0, 1) := by decide +kernel
theorem dX10_count_141 : decode cX10_count 141 = .ok (.getfield 19, 3) := by decide +kernel
theorem dX10_count_144 : decode cX10_count 144 = .ok (.invokevirtual 40, 3) := by decide +kernel
theorem dX10_count_147 : decode cX10_count 147 = .ok (.iastore, 1) := by decide +kernel
theorem dX10_count_148 : decode cX10_count 148 = .ok (.dup, 1) := by decide +kernel
theorem dX10_count_149 : decode cX10_count 149 = .ok (.bipush 7, 2) := by decide +kernel
theorem dX10_count_151 : decode cX10_count 151 = .ok (.aload_n 0, 1) := by decide +kernel
theorem dX10_count_152 : decode cX10_count 152 = .ok (.iconst 4, 1) := by decide +kernel
theorem dX10_count_153 : decode cX10_count 153 = .ok (.invokevirtual 137, 3) := by decide +kernel
theorem dX10_count_156 : decode cX10_count 156 = .ok (.iastore, 1) := by decide +kernel
theorem dX10_count_157 : decode cX10_count 157 = .ok (.dup, 1) := by decide +kernel
theorem dX10_count_158 : decode cX10_count 158 = .ok (.bipush 8, 2) := by decide +kernel
theorem dX10_count_160 : decode cX10_count 160 = .ok (.aload_n 0, 1) := by decide +kernel
theorem dX10_count_161 : decode cX10_count 161 = .ok (.iconst 5, 1) := by decide +kernel
theorem dX10_count_162 : decode cX10_count 162 = .ok (.invokevirtual 137, 3) := by decide +kernel
theorem dX10_count_165 : decode cX10_count 165 = .ok (.iastore, 1) := by decide +kernel
theorem dX10_count_166 : decode cX10_count 166 = .ok (.dup, 1) := by decide +kernel
theorem dX10_count_167 : decode cX10_count 167 = .ok (.bipush 9, 2) := by decide +kernel
theorem dX10_count_169 : decode cX10_count 169 = .ok (.aload_n 0, 1) := by decide +kernel
theorem dX10_count_170 : decode cX10_count 170 = .ok (.bipush 6, 2) := by decide +kernel
theorem dX10_count_172 : decode cX10_count 172 = .ok (.invokevirtual 137, 3) := by decide +kernel
theorem dX10_count_175 : decode cX10_count 175 = .ok (.iastore, 1) := by decide +kernel
theorem dX10_count_176 : decode cX10_count 176 = .ok (.dup, 1) := by decide +kernel
theorem dX10_count_177 : decode cX10_count 177 = .ok (.bipush 10, 2) := by decide +kernel
theorem dX10_count_179 : decode cX10_count 179 = .ok (.aload_n 0, 1) := by decide +kernel
theorem dX10_count_180 : decode cX10_count 180 = .ok (.getfield 28, 3) := by decide +kernel
theorem dX10_count_183 : decode cX10_count 183 = .ok (.getfield 292, 3) := by decide +kernel
theorem dX10_count_186 : decode cX10_count 186 = .ok (.iastore, 1) := by decide +kernel
theorem dX10_count_187 : decode cX10_count 187 = .ok (.dup, 1) := by decide +kernel
theorem dX10_count_188 : decode cX10_count 188 = .ok (.bipush 11, 2) := by decide +kernel
theorem dX10_count_190 : decode cX10_count 190 = .ok (.aload_n 0, 1) := by decide +kernel
theorem dX10_count_191 : decode cX10_count 191 = .ok (.getfield 28, 3) := by decide +kernel
theorem dX10_count_194 : decode cX10_count 194 = .ok (.getfield 295, 3) := by decide +kernel
theorem dX10_count_197 : decode cX10_count 197 = .ok (.iastore, 1) := by decide +kernel
theorem dX10_count_198 : decode cX10_count 198 = .ok (.dup, 1) := by decide +kernel
theorem dX10_count_199 : decode cX10_count 199 = .ok (.bipush 12, 2) := by decide +kernel
theorem dX10_count_201 : decode cX10_count 201 = .ok (.aload_n 0, 1) := by decide +kernel
theorem dX10_count_202 : decode cX10_count 202 = .ok (.getfield 264, 3) := by decide +kernel
theorem dX10_count_205 : decode cX10_count 205 = .ok (.iastore, 1) := by decide +kernel
theorem dX10_count_206 : decode cX10_count 206 = .ok (.dup, 1) := by decide +kernel
theorem dX10_count_207 : decode cX10_count 207 = .ok (.bipush 13, 2) := by decide +kernel
theorem dX10_count_209 : decode cX10_count 209 = .ok (.iload_n 2, 1) := by decide +kernel
theorem dX10_count_210 : decode cX10_count 210 = .ok (.iastore, 1) := by decide +kernel
theorem dX10_count_211 : decode cX10_count 211 = .ok (.dup, 1) := by decide +kernel
theorem dX10_count_212 : decode cX10_count 212 = .ok (.bipush 14, 2) := by decide +kernel
theorem dX10_count_214 : decode cX10_count 214 = .ok (.aload_n 0, 1) := by decide +kernel
theorem dX10_count_215 : decode cX10_count 215 = .ok (.getfield 221, 3) := by decide +kernel
theorem dX10_count_218 : decode cX10_count 218 = .ok (.iastore, 1) := by decide +kernel
theorem dX10_count_219 : decode cX10_count 219 = .ok (.dup, 1) := by decide +kernel
theorem dX10_count_220 : decode cX10_count 220 = .ok (.bipush 15, 2) := by decide +kernel
theorem dX10_count_222 : decode cX10_count 222 = .ok (.aload_n 0, 1) := by decide +kernel
theorem dX10_count_223 : decode cX10_count 223 = .ok (.getfield 28, 3) := by decide +kernel
theorem dX10_count_226 : decode cX10_count 226 = .ok (.getfield 218, 3) := by decide +kernel
theorem dX10_count_229 : decode cX10_count 229 = .ok (.invokestatic 127, 3) := by decide +kernel
theorem dX10_count_232 : decode cX10_count 232 = .ok (.iastore, 1) := by decide +kernel
theorem dX10_count_233 : decode cX10_count 233 = .ok (.astore_n 3, 1) := by decide +kernel
theorem dX10_count_234 : decode cX10_count 234 = .ok (.aload_n 3, 1) := by decide +kernel
theorem dX10_count_235 : decode cX10_count 235 = .ok (.iload_n 1, 1) := by decide +kernel
theorem dX10_count_236 : decode cX10_count 236 = .ok (.iaload, 1) := by decide +kernel
theorem dX10_count_237 : decode cX10_count 237 = .ok (.ireturn, 1) := by decide +kernel
theorem dX10_many_0 : decode cX10_many 0 = .ok (.aload_n 0, 1) := by decide +kernel
theorem dX10_many_1 : decode cX10_many 1 = .ok (.iload_n 1, 1) := by decide +kernel
theorem dX10_many_2 : decode cX10_many 2 = .ok (.iconst 0, 1) := by decide +kernel
theorem dX10_many_3 : decode cX10_many 3 = .ok (.bipush 15, 2) := by decide +kernel
theorem dX10_many_5 : decode cX10_many 5 = .ok (.invokestatic 44, 3) := by decide +kernel
theorem dX10_many_8 : decode cX10_many 8 = .ok (.ifCond .ne 7, 3) := by decide +kernel
theorem dX10_many_11 : decode cX10_many 11 = .ok (.iconst 1, 1) := by decide +kernel
theorem dX10_many_12 : decode cX10_many 12 = .ok (.goto 4, 3) := by decide +kernel
theorem dX10_many_15 : decode cX10_many 15 = .ok (.iconst 0, 1) := by decide +kernel
theorem dX10_many_16 : decode cX10_many 16 = .ok (.iconst 1, 1) := by decide +kernel
theorem dX10_many_17 : decode cX10_many 17 = .ok (.invokevirtual 88, 3) := by decide +kernel
theorem dX10_many_20 : decode cX10_many 20 = .ok (.ifCond .eq 7, 3) := by decide +kernel
theorem dX10_many_23 : decode cX10_many 23 = .ok (.iconst 0, 1) := by decide +kernel
theorem dX10_many_24 : decode cX10_many 24 = .ok (.goto 8, 3) := by decide +kernel
theorem dX10_many_27 : decode cX10_many 27 = .ok (.aload_n 0, 1) := by decide +kernel
theorem dX10_many_28 : decode cX10_many 28 = .ok (.iload_n 1, 1) := by decide +kernel
theorem dX10_many_29 : decode cX10_many 29 = .ok (.invokevirtual 298, 3) := by decide +kernel
theorem dX10_many_32 : decode cX10_many 32 = .ok (.ireturn, 1) := by decide +kernel
theorem dX10_coneBy_0 : decode cX10_coneBy 0 = .ok (.aload_n 0, 1) := by decide +kernel
theorem dX10_coneBy_1 : decode cX10_coneBy 1 = .ok (.getfield 28, 3) := by decide +kernel
theorem dX10_coneBy_4 : decode cX10_coneBy 4 = .ok (.invokevirtual 301, 3) := by decide +kernel
theorem dX10_coneBy_7 : decode cX10_coneBy 7 = .ok (.astore_n 3, 1) := by decide +kernel
theorem dX10_coneBy_8 : decode cX10_coneBy 8 = .ok (.iconst 0, 1) := by decide +kernel
theorem dX10_coneBy_9 : decode cX10_coneBy 9 = .ok (.istore 4, 2) := by decide +kernel
theorem dX10_coneBy_11 : decode cX10_coneBy 11 = .ok (.iload 4, 2) := by decide +kernel
theorem dX10_coneBy_13 : decode cX10_coneBy 13 = .ok (.iload_n 2, 1) := by decide +kernel
theorem dX10_coneBy_14 : decode cX10_coneBy 14 = .ok (.if_icmp .ge 13, 3) := by decide +kernel
theorem dX10_coneBy_17 : decode cX10_coneBy 17 = .ok (.aload_n 3, 1) := by decide +kernel
theorem dX10_coneBy_18 : decode cX10_coneBy 18 = .ok (.invokevirtual 204, 3) := by decide +kernel
theorem dX10_coneBy_21 : decode cX10_coneBy 21 = .ok (.iinc 4 1, 3) := by decide +kernel
theorem dX10_coneBy_24 : decode cX10_coneBy 24 = .ok (.goto (-13), 3) := by decide +kernel
theorem dX10_coneBy_27 : decode cX10_coneBy 27 = .ok (.aload_n 3, 1) := by decide +kernel
theorem dX10_coneBy_28 : decode cX10_coneBy 28 = .ok (.iload_n 1, 1) := by decide +kernel
theorem dX10_coneBy_29 : decode cX10_coneBy 29 = .ok (.invokevirtual 242, 3) := by decide +kernel
theorem dX10_coneBy_32 : decode cX10_coneBy 32 = .ok (.ireturn, 1) := by decide +kernel
theorem dX10_wouldCone_0 : decode cX10_wouldCone 0 = .ok (.aload_n 0, 1) := by decide +kernel
theorem dX10_wouldCone_1 : decode cX10_wouldCone 1 = .ok (.iload_n 1, 1) := by decide +kernel
theorem dX10_wouldCone_2 : decode cX10_wouldCone 2 = .ok (.invokestatic 167, 3) := by decide +kernel
theorem dX10_wouldCone_5 : decode cX10_wouldCone 5 = .ok (.iconst 1, 1) := by decide +kernel
theorem dX10_wouldCone_6 : decode cX10_wouldCone 6 = .ok (.invokevirtual 88, 3) := by decide +kernel
theorem dX10_wouldCone_9 : decode cX10_wouldCone 9 = .ok (.ifCond .ne 26, 3) := by decide +kernel
theorem dX10_wouldCone_12 : decode cX10_wouldCone 12 = .ok (.aload_n 0, 1) := by decide +kernel
theorem dX10_wouldCone_13 : decode cX10_wouldCone 13 = .ok (.iload_n 2, 1) := by decide +kernel
theorem dX10_wouldCone_14 : decode cX10_wouldCone 14 = .ok (.iconst 1, 1) := by decide +kernel
theorem dX10_wouldCone_15 : decode cX10_wouldCone 15 = .ok (.bipush 60, 2) := by decide +kernel
theorem dX10_wouldCone_17 : decode cX10_wouldCone 17 = .ok (.invokestatic 44, 3) := by decide +kernel
theorem dX10_wouldCone_20 : decode cX10_wouldCone 20 = .ok (.ifCond .ne 7, 3) := by decide +kernel
theorem dX10_wouldCone_23 : decode cX10_wouldCone 23 = .ok (.iconst 1, 1) := by decide +kernel
theorem dX10_wouldCone_24 : decode cX10_wouldCone 24 = .ok (.goto 4, 3) := by decide +kernel
theorem dX10_wouldCone_27 : decode cX10_wouldCone 27 = .ok (.iconst 0, 1) := by decide +kernel
theorem dX10_wouldCone_28 : decode cX10_wouldCone 28 = .ok (.iconst 2, 1) := by decide +kernel
theorem dX10_wouldCone_29 : decode cX10_wouldCone 29 = .ok (.invokevirtual 36, 3) := by decide +kernel
theorem dX10_wouldCone_32 : decode cX10_wouldCone 32 = .ok (.ifCond .eq 7, 3) := by decide +kernel
theorem dX10_wouldCone_35 : decode cX10_wouldCone 35 = .ok (.iconst 0, 1) := by decide +kernel
theorem dX10_wouldCone_36 : decode cX10_wouldCone 36 = .ok (.goto 9, 3) := by decide +kernel
theorem dX10_wouldCone_39 : decode cX10_wouldCone 39 = .ok (.aload_n 0, 1) := by decide +kernel
theorem dX10_wouldCone_40 : decode cX10_wouldCone 40 = .ok (.iload_n 1, 1) := by decide +kernel
theorem dX10_wouldCone_41 : decode cX10_wouldCone 41 = .ok (.iload_n 2, 1) := by decide +kernel
theorem dX10_wouldCone_42 : decode cX10_wouldCone 42 = .ok (.invokevirtual 305, 3) := by decide +kernel
theorem dX10_wouldCone_45 : decode cX10_wouldCone 45 = .ok (.ireturn, 1) := by decide +kernel
theorem dX10_ending_0 : decode cX10_ending 0 = .ok (.aload_n 0, 1) := by decide +kernel
theorem dX10_ending_1 : decode cX10_ending 1 = .ok (.getfield 28, 3) := by decide +kernel
theorem dX10_ending_4 : decode cX10_ending 4 = .ok (.invokevirtual 301, 3) := by decide +kernel
theorem dX10_ending_7 : decode cX10_ending 7 = .ok (.astore_n 1, 1) := by decide +kernel
theorem dX10_ending_8 : decode cX10_ending 8 = .ok (.iconst 0, 1) := by decide +kernel
theorem dX10_ending_9 : decode cX10_ending 9 = .ok (.istore_n 2, 1) := by decide +kernel
theorem dX10_ending_10 : decode cX10_ending 10 = .ok (.iload_n 2, 1) := by decide +kernel
theorem dX10_ending_11 : decode cX10_ending 11 = .ok (.sipush 300, 3) := by decide +kernel
theorem dX10_ending_14 : decode cX10_ending 14 = .ok (.if_icmp .gt 22, 3) := by decide +kernel
theorem dX10_ending_17 : decode cX10_ending 17 = .ok (.aload_n 1, 1) := by decide +kernel
theorem dX10_ending_18 : decode cX10_ending 18 = .ok (.getfield 48, 3) := by decide +kernel
theorem dX10_ending_21 : decode cX10_ending 21 = .ok (.ifCond .ne 5, 3) := by decide +kernel
theorem dX10_ending_24 : decode cX10_ending 24 = .ok (.iload_n 2, 1) := by decide +kernel
theorem dX10_ending_25 : decode cX10_ending 25 = .ok (.ireturn, 1) := by decide +kernel
theorem dX10_ending_26 : decode cX10_ending 26 = .ok (.aload_n 1, 1) := by decide +kernel
theorem dX10_ending_27 : decode cX10_ending 27 = .ok (.invokevirtual 204, 3) := by decide +kernel
theorem dX10_ending_30 : decode cX10_ending 30 = .ok (.iinc 2 1, 3) := by decide +kernel
theorem dX10_ending_33 : decode cX10_ending 33 = .ok (.goto (-23), 3) := by decide +kernel
theorem dX10_ending_36 : decode cX10_ending 36 = .ok (.iconst (-1), 1) := by decide +kernel
theorem dX10_ending_37 : decode cX10_ending 37 = .ok (.ireturn, 1) := by decide +kernel
theorem dX10_wouldEnd_0 : decode cX10_wouldEnd 0 = .ok (.aload_n 0, 1) := by decide +kernel
theorem dX10_wouldEnd_1 : decode cX10_wouldEnd 1 = .ok (.iconst 0, 1) := by decide +kernel
theorem dX10_wouldEnd_2 : decode cX10_wouldEnd 2 = .ok (.putfield 32, 3) := by decide +kernel
theorem dX10_wouldEnd_5 : decode cX10_wouldEnd 5 = .ok (.aload_n 0, 1) := by decide +kernel
theorem dX10_wouldEnd_6 : decode cX10_wouldEnd 6 = .ok (.invokevirtual 308, 3) := by decide +kernel
theorem dX10_wouldEnd_9 : decode cX10_wouldEnd 9 = .ok (.ireturn, 1) := by decide +kernel
theorem dX10_best_0 : decode cX10_best 0 = .ok (.aload_n 0, 1) := by decide +kernel
theorem dX10_best_1 : decode cX10_best 1 = .ok (.aload_n 0, 1) := by decide +kernel
theorem dX10_best_2 : decode cX10_best 2 = .ok (.iload_n 1, 1) := by decide +kernel
theorem dX10_best_3 : decode cX10_best 3 = .ok (.invokevirtual 95, 3) := by decide +kernel
theorem dX10_best_6 : decode cX10_best 6 = .ok (.iconst 1, 1) := by decide +kernel
theorem dX10_best_7 : decode cX10_best 7 = .ok (.invokevirtual 88, 3) := by decide +kernel
theorem dX10_best_10 : decode cX10_best 10 = .ok (.ifCond .ne 26, 3) := by decide +kernel
theorem dX10_best_13 : decode cX10_best 13 = .ok (.aload_n 0, 1) := by decide +kernel
theorem dX10_best_14 : decode cX10_best 14 = .ok (.iload_n 2, 1) := by decide +kernel
theorem dX10_best_15 : decode cX10_best 15 = .ok (.iconst 1, 1) := by decide +kernel
theorem dX10_best_16 : decode cX10_best 16 = .ok (.bipush 12, 2) := by decide +kernel
theorem dX10_best_18 : decode cX10_best 18 = .ok (.invokestatic 44, 3) := by decide +kernel
theorem dX10_best_21 : decode cX10_best 21 = .ok (.ifCond .ne 7, 3) := by decide +kernel
theorem dX10_best_24 : decode cX10_best 24 = .ok (.iconst 1, 1) := by decide +kernel
theorem dX10_best_25 : decode cX10_best 25 = .ok (.goto 4, 3) := by decide +kernel
theorem dX10_best_28 : decode cX10_best 28 = .ok (.iconst 0, 1) := by decide +kernel
theorem dX10_best_29 : decode cX10_best 29 = .ok (.iconst 2, 1) := by decide +kernel
theorem dX10_best_30 : decode cX10_best 30 = .ok (.invokevirtual 36, 3) := by decide +kernel
theorem dX10_best_33 : decode cX10_best 33 = .ok (.ifCond .eq 5, 3) := by decide +kernel
theorem dX10_best_36 : decode cX10_best 36 = .ok (.iconst 0, 1) := by decide +kernel
theorem dX10_best_37 : decode cX10_best 37 = .ok (.ireturn, 1) := by decide +kernel
theorem dX10_best_38 : decode cX10_best 38 = .ok (.iconst (-1), 1) := by decide +kernel
theorem dX10_best_39 : decode cX10_best 39 = .ok (.istore_n 3, 1) := by decide +kernel
theorem dX10_best_40 : decode cX10_best 40 = .ok (.iconst 0, 1) := by decide +kernel
theorem dX10_best_41 : decode cX10_best 41 = .ok (.istore 4, 2) := by decide +kernel
theorem dX10_best_43 : decode cX10_best 43 = .ok (.iload 4, 2) := by decide +kernel
theorem dX10_best_45 : decode cX10_best 45 = .ok (.aload_n 0, 1) := by decide +kernel
theorem dX10_best_46 : decode cX10_best 46 = .ok (.getfield 16, 3) := by decide +kernel
theorem dX10_best_49 : decode cX10_best 49 = .ok (.invokevirtual 40, 3) := by decide +kernel
theorem dX10_best_52 : decode cX10_best 52 = .ok (.if_icmp .ge 88, 3) := by decide +kernel
theorem dX10_best_55 : decode cX10_best 55 = .ok (.aload_n 0, 1) := by decide +kernel
theorem dX10_best_56 : decode cX10_best 56 = .ok (.iload 4, 2) := by decide +kernel
theorem dX10_best_58 : decode cX10_best 58 = .ok (.invokevirtual 230, 3) := by decide +kernel
theorem dX10_best_61 : decode cX10_best 61 = .ok (.aload_n 0, 1) := by decide +kernel
theorem dX10_best_62 : decode cX10_best 62 = .ok (.iload_n 1, 1) := by decide +kernel
theorem dX10_best_63 : decode cX10_best 63 = .ok (.invokevirtual 234, 3) := by decide +kernel
theorem dX10_best_66 : decode cX10_best 66 = .ok (.dsub, 1) := by decide +kernel
theorem dX10_best_67 : decode cX10_best 67 = .ok (.invokestatic 311, 3) := by decide +kernel
theorem dX10_best_70 : decode cX10_best 70 = .ok (.dstore 5, 2) := by decide +kernel
theorem dX10_best_72 : decode cX10_best 72 = .ok (.iload_n 2, 1) := by decide +kernel
theorem dX10_best_73 : decode cX10_best 73 = .ok (.aload_n 0, 1) := by decide +kernel
theorem dX10_best_74 : decode cX10_best 74 = .ok (.iload 4, 2) := by decide +kernel
theorem dX10_best_76 : decode cX10_best 76 = .ok (.invokevirtual 147, 3) := by decide +kernel
theorem dX10_best_79 : decode cX10_best 79 = .ok (.if_icmp .lt 55, 3) := by decide +kernel
theorem dX10_best_82 : decode cX10_best 82 = .ok (.iload_n 2, 1) := by decide +kernel
theorem dX10_best_83 : decode cX10_best 83 = .ok (.aload_n 0, 1) := by decide +kernel
theorem dX10_best_84 : decode cX10_best 84 = .ok (.iload 4, 2) := by decide +kernel
theorem dX10_best_86 : decode cX10_best 86 = .ok (.invokevirtual 147, 3) := by decide +kernel
theorem dX10_best_89 : decode cX10_best 89 = .ok (.iconst 2, 1) := by decide +kernel
theorem dX10_best_90 : decode cX10_best 90 = .ok (.iadd, 1) := by decide +kernel
theorem dX10_best_91 : decode cX10_best 91 = .ok (.if_icmp .gt 43, 3) := by decide +kernel
theorem dX10_best_94 : decode cX10_best 94 = .ok (.dload 5, 2) := by decide +kernel
theorem dX10_best_96 : decode cX10_best 96 = .ok (.ldc2_w 84, 3) := by decide +kernel
theorem dX10_best_99 : decode cX10_best 99 = .ok (.dcmp .l, 1) := by decide +kernel
theorem dX10_best_100 : decode cX10_best 100 = .ok (.ifCond .le 6, 3) := by decide +kernel
theorem dX10_best_103 : decode cX10_best 103 = .ok (.goto 31, 3) := by decide +kernel
theorem dX10_best_106 : decode cX10_best 106 = .ok (.iload_n 3, 1) := by decide +kernel
theorem dX10_best_107 : decode cX10_best 107 = .ok (.iconst (-1), 1) := by decide +kernel
theorem dX10_best_108 : decode cX10_best 108 = .ok (.if_icmp .eq 23, 3) := by decide +kernel
theorem dX10_best_111 : decode cX10_best 111 = .ok (.dload 5, 2) := by decide +kernel
theorem dX10_best_113 : decode cX10_best 113 = .ok (.aload_n 0, 1) := by decide +kernel
theorem dX10_best_114 : decode cX10_best 114 = .ok (.iload_n 3, 1) := by decide +kernel
theorem dX10_best_115 : decode cX10_best 115 = .ok (.invokevirtual 230, 3) := by decide +kernel
theorem dX10_best_118 : decode cX10_best 118 = .ok (.aload_n 0, 1) := by decide +kernel
theorem dX10_best_119 : decode cX10_best 119 = .ok (.iload_n 1, 1) := by decide +kernel
theorem dX10_best_120 : decode cX10_best 120 = .ok (.invokevirtual 234, 3) := by decide +kernel
theorem dX10_best_123 : decode cX10_best 123 = .ok (.dsub, 1) := by decide +kernel
theorem dX10_best_124 : decode cX10_best 124 = .ok (.invokestatic 311, 3) := by decide +kernel
theorem dX10_best_127 : decode cX10_best 127 = .ok (.dcmp .g, 1) := by decide +kernel
theorem dX10_best_128 : decode cX10_best 128 = .ok (.ifCond .ge 6, 3) := by decide +kernel
theorem dX10_best_131 : decode cX10_best 131 = .ok (.iload 4, 2) := by decide +kernel
theorem dX10_best_133 : decode cX10_best 133 = .ok (.istore_n 3, 1) := by decide +kernel
theorem dX10_best_134 : decode cX10_best 134 = .ok (.iinc 4 1, 3) := by decide +kernel
theorem dX10_best_137 : decode cX10_best 137 = .ok (.goto (-94), 3) := by decide +kernel
theorem dX10_best_140 : decode cX10_best 140 = .ok (.iload_n 3, 1) := by decide +kernel
theorem dX10_best_141 : decode cX10_best 141 = .ok (.ireturn, 1) := by decide +kernel
theorem dX10_holding_0 : decode cX10_holding 0 = .ok (.aload_n 0, 1) := by decide +kernel
theorem dX10_holding_1 : decode cX10_holding 1 = .ok (.iload_n 1, 1) := by decide +kernel
theorem dX10_holding_2 : decode cX10_holding 2 = .ok (.invokevirtual 283, 3) := by decide +kernel
theorem dX10_holding_5 : decode cX10_holding 5 = .ok (.istore_n 2, 1) := by decide +kernel
theorem dX10_holding_6 : decode cX10_holding 6 = .ok (.iconst 1, 1) := by decide +kernel
theorem dX10_holding_7 : decode cX10_holding 7 = .ok (.istore_n 3, 1) := by decide +kernel
theorem dX10_holding_8 : decode cX10_holding 8 = .ok (.aload_n 0, 1) := by decide +kernel
theorem dX10_holding_9 : decode cX10_holding 9 = .ok (.getfield 19, 3) := by decide +kernel
theorem dX10_holding_12 : decode cX10_holding 12 = .ok (.invokevirtual 110, 3) := by decide +kernel
theorem dX10_holding_15 : decode cX10_holding 15 = .ok (.astore 4, 2) := by decide +kernel
theorem dX10_holding_17 : decode cX10_holding 17 = .ok (.aload 4, 2) := by decide +kernel
theorem dX10_holding_19 : decode cX10_holding 19 = .ok (.invokeinterface 114 1, 5) := by decide +kernel
theorem dX10_holding_24 : decode cX10_holding 24 = .ok (.ifCond .eq 73, 3) := by decide +kernel
theorem dX10_holding_27 : decode cX10_holding 27 = .ok (.aload 4, 2) := by decide +kernel
theorem dX10_holding_29 : decode cX10_holding 29 = .ok (.invokeinterface 120 1, 5) := by decide +kernel
theorem dX10_holding_34 : decode cX10_holding 34 = .ok (.checkcast 99, 3) := by decide +kernel
theorem dX10_holding_37 : decode cX10_holding 37 = .ok (.astore 5, 2) := by decide +kernel
theorem dX10_holding_39 : decode cX10_holding 39 = .ok (.aload 5, 2) := by decide +kernel
theorem dX10_holding_41 : decode cX10_holding 41 = .ok (.getfield 124, 3) := by decide +kernel
theorem dX10_holding_44 : decode cX10_holding 44 = .ok (.iconst 1, 1) := by decide +kernel
theorem dX10_holding_45 : decode cX10_holding 45 = .ok (.if_icmp .eq 12, 3) := by decide +kernel
theorem dX10_holding_48 : decode cX10_holding 48 = .ok (.aload 5, 2) := by decide +kernel
theorem dX10_holding_50 : decode cX10_holding 50 = .ok (.getfield 124, 3) := by decide +kernel
theorem dX10_holding_53 : decode cX10_holding 53 = .ok (.iconst 3, 1) := by decide +kernel
theorem dX10_holding_54 : decode cX10_holding 54 = .ok (.if_icmp .ne 40, 3) := by decide +kernel
theorem dX10_holding_57 : decode cX10_holding 57 = .ok (.aload 5, 2) := by decide +kernel
theorem dX10_holding_59 : decode cX10_holding 59 = .ok (.getfield 150, 3) := by decide +kernel
theorem dX10_holding_62 : decode cX10_holding 62 = .ok (.iconst (-1), 1) := by decide +kernel
theorem dX10_holding_63 : decode cX10_holding 63 = .ok (.if_icmp .ne 31, 3) := by decide +kernel
theorem dX10_holding_66 : decode cX10_holding 66 = .ok (.aload 5, 2) := by decide +kernel
theorem dX10_holding_68 : decode cX10_holding 68 = .ok (.getfield 173, 3) := by decide +kernel
theorem dX10_holding_71 : decode cX10_holding 71 = .ok (.iload_n 1, 1) := by decide +kernel
theorem dX10_holding_72 : decode cX10_holding 72 = .ok (.invokestatic 176, 3) := by decide +kernel
theorem dX10_holding_75 : decode cX10_holding 75 = .ok (.if_icmp .gt 19, 3) := by decide +kernel
theorem dX10_holding_78 : decode cX10_holding 78 = .ok (.iload_n 3, 1) := by decide +kernel
theorem dX10_holding_79 : decode cX10_holding 79 = .ok (.iload_n 3, 1) := by decide +kernel
theorem dX10_holding_80 : decode cX10_holding 80 = .ok (.aload 5, 2) := by decide +kernel
theorem dX10_holding_82 : decode cX10_holding 82 = .ok (.getfield 156, 3) := by decide +kernel
theorem dX10_holding_85 : decode cX10_holding 85 = .ok (.ishl, 1) := by decide +kernel
theorem dX10_holding_86 : decode cX10_holding 86 = .ok (.iconst 2, 1) := by decide +kernel
theorem dX10_holding_87 : decode cX10_holding 87 = .ok (.iload_n 2, 1) := by decide +kernel
theorem dX10_holding_88 : decode cX10_holding 88 = .ok (.ishl, 1) := by decide +kernel
theorem dX10_holding_89 : decode cX10_holding 89 = .ok (.iconst 1, 1) := by decide +kernel
theorem dX10_holding_90 : decode cX10_holding 90 = .ok (.isub, 1) := by decide +kernel
theorem dX10_holding_91 : decode cX10_holding 91 = .ok (.iand, 1) := by decide +kernel
theorem dX10_holding_92 : decode cX10_holding 92 = .ok (.ior, 1) := by decide +kernel
theorem dX10_holding_93 : decode cX10_holding 93 = .ok (.istore_n 3, 1) := by decide +kernel
theorem dX10_holding_94 : decode cX10_holding 94 = .ok (.goto (-77), 3) := by decide +kernel
theorem dX10_holding_97 : decode cX10_holding 97 = .ok (.iload_n 2, 1) := by decide +kernel
theorem dX10_holding_98 : decode cX10_holding 98 = .ok (.istore 4, 2) := by decide +kernel
theorem dX10_holding_100 : decode cX10_holding 100 = .ok (.iload_n 3, 1) := by decide +kernel
theorem dX10_holding_101 : decode cX10_holding 101 = .ok (.iload 4, 2) := by decide +kernel
theorem dX10_holding_103 : decode cX10_holding 103 = .ok (.ishr, 1) := by decide +kernel
theorem dX10_holding_104 : decode cX10_holding 104 = .ok (.iconst 1, 1) := by decide +kernel
theorem dX10_holding_105 : decode cX10_holding 105 = .ok (.iand, 1) := by decide +kernel
theorem dX10_holding_106 : decode cX10_holding 106 = .ok (.ifCond .ne 9, 3) := by decide +kernel
theorem dX10_holding_109 : decode cX10_holding 109 = .ok (.iinc 4 (-1), 3) := by decide +kernel
theorem dX10_holding_112 : decode cX10_holding 112 = .ok (.goto (-12), 3) := by decide +kernel
theorem dX10_holding_115 : decode cX10_holding 115 = .ok (.iload 4, 2) := by decide +kernel
theorem dX10_holding_117 : decode cX10_holding 117 = .ok (.ireturn, 1) := by decide +kernel
theorem dX10_wouldHold_0 : decode cX10_wouldHold 0 = .ok (.aload_n 0, 1) := by decide +kernel
theorem dX10_wouldHold_1 : decode cX10_wouldHold 1 = .ok (.iload_n 1, 1) := by decide +kernel
theorem dX10_wouldHold_2 : decode cX10_wouldHold 2 = .ok (.invokestatic 167, 3) := by decide +kernel
theorem dX10_wouldHold_5 : decode cX10_wouldHold 5 = .ok (.iconst 1, 1) := by decide +kernel
theorem dX10_wouldHold_6 : decode cX10_wouldHold 6 = .ok (.invokevirtual 88, 3) := by decide +kernel
theorem dX10_wouldHold_9 : decode cX10_wouldHold 9 = .ok (.ifCond .eq 7, 3) := by decide +kernel
theorem dX10_wouldHold_12 : decode cX10_wouldHold 12 = .ok (.iconst 0, 1) := by decide +kernel
theorem dX10_wouldHold_13 : decode cX10_wouldHold 13 = .ok (.goto 8, 3) := by decide +kernel
theorem dX10_wouldHold_16 : decode cX10_wouldHold 16 = .ok (.aload_n 0, 1) := by decide +kernel
theorem dX10_wouldHold_17 : decode cX10_wouldHold 17 = .ok (.iload_n 1, 1) := by decide +kernel
theorem dX10_wouldHold_18 : decode cX10_wouldHold 18 = .ok (.invokevirtual 314, 3) := by decide +kernel
theorem dX10_wouldHold_21 : decode cX10_wouldHold 21 = .ok (.ireturn, 1) := by decide +kernel
theorem dX10_add_0 : decode cX10_add 0 = .ok (.lload_n 0, 1) := by decide +kernel
theorem dX10_add_1 : decode cX10_add 1 = .ok (.ldc2_w 317, 3) := by decide +kernel
theorem dX10_add_4 : decode cX10_add 4 = .ok (.lmul, 1) := by decide +kernel
theorem dX10_add_5 : decode cX10_add 5 = .ok (.lload_n 2, 1) := by decide +kernel
theorem dX10_add_6 : decode cX10_add 6 = .ok (.ladd, 1) := by decide +kernel
theorem dX10_add_7 : decode cX10_add 7 = .ok (.lreturn, 1) := by decide +kernel
theorem dX10_digest_0 : decode cX10_digest 0 = .ok (.aload_n 0, 1) := by decide +kernel
theorem dX10_digest_1 : decode cX10_digest 1 = .ok (.iconst 0, 1) := by decide +kernel
theorem dX10_digest_2 : decode cX10_digest 2 = .ok (.putfield 32, 3) := by decide +kernel
theorem dX10_digest_5 : decode cX10_digest 5 = .ok (.ldc2_w 319, 3) := by decide +kernel
theorem dX10_digest_8 : decode cX10_digest 8 = .ok (.lstore_n 1, 1) := by decide +kernel
theorem dX10_digest_9 : decode cX10_digest 9 = .ok (.iconst 0, 1) := by decide +kernel
theorem dX10_digest_10 : decode cX10_digest 10 = .ok (.istore_n 3, 1) := by decide +kernel
theorem dX10_digest_11 : decode cX10_digest 11 = .ok (.iload_n 3, 1) := by decide +kernel
theorem dX10_digest_12 : decode cX10_digest 12 = .ok (.bipush 16, 2) := by decide +kernel
theorem dX10_digest_14 : decode cX10_digest 14 = .ok (.if_icmp .ge 20, 3) := by decide +kernel
theorem dX10_digest_17 : decode cX10_digest 17 = .ok (.lload_n 1, 1) := by decide +kernel
theorem dX10_digest_18 : decode cX10_digest 18 = .ok (.aload_n 0, 1) := by decide +kernel
theorem dX10_digest_19 : decode cX10_digest 19 = .ok (.iload_n 3, 1) := by decide +kernel
theorem dX10_digest_20 : decode cX10_digest 20 = .ok (.invokevirtual 298, 3) := by decide +kernel
theorem dX10_digest_23 : decode cX10_digest 23 = .ok (.i2l, 1) := by decide +kernel
theorem dX10_digest_24 : decode cX10_digest 24 = .ok (.invokestatic 321, 3) := by decide +kernel
theorem dX10_digest_27 : decode cX10_digest 27 = .ok (.lstore_n 1, 1) := by decide +kernel
theorem dX10_digest_28 : decode cX10_digest 28 = .ok (.iinc 3 1, 3) := by decide +kernel
theorem dX10_digest_31 : decode cX10_digest 31 = .ok (.goto (-20), 3) := by decide +kernel
theorem dX10_digest_34 : decode cX10_digest 34 = .ok (.iconst 0, 1) := by decide +kernel
theorem dX10_digest_35 : decode cX10_digest 35 = .ok (.istore_n 3, 1) := by decide +kernel
theorem dX10_digest_36 : decode cX10_digest 36 = .ok (.iload_n 3, 1) := by decide +kernel
theorem dX10_digest_37 : decode cX10_digest 37 = .ok (.aload_n 0, 1) := by decide +kernel
theorem dX10_digest_38 : decode cX10_digest 38 = .ok (.getfield 19, 3) := by decide +kernel
theorem dX10_digest_41 : decode cX10_digest 41 = .ok (.invokevirtual 40, 3) := by decide +kernel
theorem dX10_digest_44 : decode cX10_digest 44 = .ok (.if_icmp .ge 62, 3) := by decide +kernel
theorem dX10_digest_47 : decode cX10_digest 47 = .ok (.iconst 0, 1) := by decide +kernel
theorem dX10_digest_48 : decode cX10_digest 48 = .ok (.istore 4, 2) := by decide +kernel
theorem dX10_digest_50 : decode cX10_digest 50 = .ok (.iload 4, 2) := by decide +kernel
theorem dX10_digest_52 : decode cX10_digest 52 = .ok (.bipush 8, 2) := by decide +kernel
theorem dX10_digest_54 : decode cX10_digest 54 = .ok (.if_icmp .ge 22, 3) := by decide +kernel
theorem dX10_digest_57 : decode cX10_digest 57 = .ok (.lload_n 1, 1) := by decide +kernel
theorem dX10_digest_58 : decode cX10_digest 58 = .ok (.aload_n 0, 1) := by decide +kernel
theorem dX10_digest_59 : decode cX10_digest 59 = .ok (.iload_n 3, 1) := by decide +kernel
theorem dX10_digest_60 : decode cX10_digest 60 = .ok (.iload 4, 2) := by decide +kernel
theorem dX10_digest_62 : decode cX10_digest 62 = .ok (.invokevirtual 267, 3) := by decide +kernel
theorem dX10_digest_65 : decode cX10_digest 65 = .ok (.i2l, 1) := by decide +kernel
theorem dX10_digest_66 : decode cX10_digest 66 = .ok (.invokestatic 321, 3) := by decide +kernel
theorem dX10_digest_69 : decode cX10_digest 69 = .ok (.lstore_n 1, 1) := by decide +kernel
theorem dX10_digest_70 : decode cX10_digest 70 = .ok (.iinc 4 1, 3) := by decide +kernel
theorem dX10_digest_73 : decode cX10_digest 73 = .ok (.goto (-23), 3) := by decide +kernel
theorem dX10_digest_76 : decode cX10_digest 76 = .ok (.lload_n 1, 1) := by decide +kernel
theorem dX10_digest_77 : decode cX10_digest 77 = .ok (.ldc_w 324, 3) := by decide +kernel
theorem dX10_digest_80 : decode cX10_digest 80 = .ok (.aload_n 0, 1) := by decide +kernel
theorem dX10_digest_81 : decode cX10_digest 81 = .ok (.getfield 19, 3) := by decide +kernel
theorem dX10_digest_84 : decode cX10_digest 84 = .ok (.iload_n 3, 1) := by decide +kernel
theorem dX10_digest_85 : decode cX10_digest 85 = .ok (.invokevirtual 58, 3) := by decide +kernel
theorem dX10_digest_88 : decode cX10_digest 88 = .ok (.checkcast 99, 3) := by decide +kernel
theorem dX10_digest_91 : decode cX10_digest 91 = .ok (.getfield 270, 3) := by decide +kernel
theorem dX10_digest_94 : decode cX10_digest 94 = .ok (.fmul, 1) := by decide +kernel
theorem dX10_digest_95 : decode cX10_digest 95 = .ok (.f2l, 1) := by decide +kernel
theorem dX10_digest_96 : decode cX10_digest 96 = .ok (.invokestatic 321, 3) := by decide +kernel
theorem dX10_digest_99 : decode cX10_digest 99 = .ok (.lstore_n 1, 1) := by decide +kernel
theorem dX10_digest_100 : decode cX10_digest 100 = .ok (.iinc 3 1, 3) := by decide +kernel
theorem dX10_digest_103 : decode cX10_digest 103 = .ok (.goto (-67), 3) := by decide +kernel
theorem dX10_digest_106 : decode cX10_digest 106 = .ok (.iconst 0, 1) := by decide +kernel
theorem dX10_digest_107 : decode cX10_digest 107 = .ok (.istore_n 3, 1) := by decide +kernel
theorem dX10_digest_108 : decode cX10_digest 108 = .ok (.iload_n 3, 1) := by decide +kernel
theorem dX10_digest_109 : decode cX10_digest 109 = .ok (.aload_n 0, 1) := by decide +kernel
theorem dX10_digest_110 : decode cX10_digest 110 = .ok (.getfield 16, 3) := by decide +kernel
theorem dX10_digest_113 : decode cX10_digest 113 = .ok (.invokevirtual 40, 3) := by decide +kernel
theorem dX10_digest_116 : decode cX10_digest 116 = .ok (.if_icmp .ge 33, 3) := by decide +kernel
theorem dX10_digest_119 : decode cX10_digest 119 = .ok (.lload_n 1, 1) := by decide +kernel
theorem dX10_digest_120 : decode cX10_digest 120 = .ok (.ldc2_w 325, 3) := by decide +kernel
theorem dX10_digest_123 : decode cX10_digest 123 = .ok (.aload_n 0, 1) := by decide +kernel
theorem dX10_digest_124 : decode cX10_digest 124 = .ok (.iload_n 3, 1) := by decide +kernel
theorem dX10_digest_125 : decode cX10_digest 125 = .ok (.invokevirtual 230, 3) := by decide +kernel
theorem dX10_digest_128 : decode cX10_digest 128 = .ok (.dmul, 1) := by decide +kernel
theorem dX10_digest_129 : decode cX10_digest 129 = .ok (.d2l, 1) := by decide +kernel
theorem dX10_digest_130 : decode cX10_digest 130 = .ok (.invokestatic 321, 3) := by decide +kernel
theorem dX10_digest_133 : decode cX10_digest 133 = .ok (.aload_n 0, 1) := by decide +kernel
theorem dX10_digest_134 : decode cX10_digest 134 = .ok (.iload_n 3, 1) := by decide +kernel
theorem dX10_digest_135 : decode cX10_digest 135 = .ok (.invokevirtual 147, 3) := by decide +kernel
theorem dX10_digest_138 : decode cX10_digest 138 = .ok (.i2l, 1) := by decide +kernel
theorem dX10_digest_139 : decode cX10_digest 139 = .ok (.invokestatic 321, 3) := by decide +kernel
theorem dX10_digest_142 : decode cX10_digest 142 = .ok (.lstore_n 1, 1) := by decide +kernel
theorem dX10_digest_143 : decode cX10_digest 143 = .ok (.iinc 3 1, 3) := by decide +kernel
theorem dX10_digest_146 : decode cX10_digest 146 = .ok (.goto (-38), 3) := by decide +kernel
theorem dX10_digest_149 : decode cX10_digest 149 = .ok (.iconst 0, 1) := by decide +kernel
theorem dX10_digest_150 : decode cX10_digest 150 = .ok (.istore_n 3, 1) := by decide +kernel
theorem dX10_digest_151 : decode cX10_digest 151 = .ok (.iload_n 3, 1) := by decide +kernel
theorem dX10_digest_152 : decode cX10_digest 152 = .ok (.iconst 3, 1) := by decide +kernel
theorem dX10_digest_153 : decode cX10_digest 153 = .ok (.if_icmp .ge 59, 3) := by decide +kernel
theorem dX10_digest_156 : decode cX10_digest 156 = .ok (.iconst 0, 1) := by decide +kernel
theorem dX10_digest_157 : decode cX10_digest 157 = .ok (.istore 4, 2) := by decide +kernel
theorem dX10_digest_159 : decode cX10_digest 159 = .ok (.iload 4, 2) := by decide +kernel
theorem dX10_digest_161 : decode cX10_digest 161 = .ok (.iconst 4, 1) := by decide +kernel
theorem dX10_digest_162 : decode cX10_digest 162 = .ok (.if_icmp .ge 22, 3) := by decide +kernel
theorem dX10_digest_165 : decode cX10_digest 165 = .ok (.lload_n 1, 1) := by decide +kernel
theorem dX10_digest_166 : decode cX10_digest 166 = .ok (.aload_n 0, 1) := by decide +kernel
theorem dX10_digest_167 : decode cX10_digest 167 = .ok (.iload_n 3, 1) := by decide +kernel
theorem dX10_digest_168 : decode cX10_digest 168 = .ok (.iload 4, 2) := by decide +kernel
theorem dX10_digest_170 : decode cX10_digest 170 = .ok (.invokevirtual 286, 3) := by decide +kernel
theorem dX10_digest_173 : decode cX10_digest 173 = .ok (.i2l, 1) := by decide +kernel
theorem dX10_digest_174 : decode cX10_digest 174 = .ok (.invokestatic 321, 3) := by decide +kernel
theorem dX10_digest_177 : decode cX10_digest 177 = .ok (.lstore_n 1, 1) := by decide +kernel
theorem dX10_digest_178 : decode cX10_digest 178 = .ok (.iinc 4 1, 3) := by decide +kernel
theorem dX10_digest_181 : decode cX10_digest 181 = .ok (.goto (-22), 3) := by decide +kernel
theorem dX10_digest_184 : decode cX10_digest 184 = .ok (.lload_n 1, 1) := by decide +kernel
theorem dX10_digest_185 : decode cX10_digest 185 = .ok (.aload_n 0, 1) := by decide +kernel
theorem dX10_digest_186 : decode cX10_digest 186 = .ok (.iload_n 3, 1) := by decide +kernel
theorem dX10_digest_187 : decode cX10_digest 187 = .ok (.invokevirtual 314, 3) := by decide +kernel
theorem dX10_digest_190 : decode cX10_digest 190 = .ok (.i2l, 1) := by decide +kernel
theorem dX10_digest_191 : decode cX10_digest 191 = .ok (.invokestatic 321, 3) := by decide +kernel
theorem dX10_digest_194 : decode cX10_digest 194 = .ok (.aload_n 0, 1) := by decide +kernel
theorem dX10_digest_195 : decode cX10_digest 195 = .ok (.iload_n 3, 1) := by decide +kernel
theorem dX10_digest_196 : decode cX10_digest 196 = .ok (.bipush 20, 2) := by decide +kernel
theorem dX10_digest_198 : decode cX10_digest 198 = .ok (.invokevirtual 305, 3) := by decide +kernel
theorem dX10_digest_201 : decode cX10_digest 201 = .ok (.i2l, 1) := by decide +kernel
theorem dX10_digest_202 : decode cX10_digest 202 = .ok (.invokestatic 321, 3) := by decide +kernel
theorem dX10_digest_205 : decode cX10_digest 205 = .ok (.lstore_n 1, 1) := by decide +kernel
theorem dX10_digest_206 : decode cX10_digest 206 = .ok (.iinc 3 1, 3) := by decide +kernel
theorem dX10_digest_209 : decode cX10_digest 209 = .ok (.goto (-58), 3) := by decide +kernel
theorem dX10_digest_212 : decode cX10_digest 212 = .ok (.lload_n 1, 1) := by decide +kernel
theorem dX10_digest_213 : decode cX10_digest 213 = .ok (.ldc2_w 325, 3) := by decide +kernel
theorem dX10_digest_216 : decode cX10_digest 216 = .ok (.aload_n 0, 1) := by decide +kernel
theorem dX10_digest_217 : decode cX10_digest 217 = .ok (.getfield 28, 3) := by decide +kernel
theorem dX10_digest_220 : decode cX10_digest 220 = .ok (.getfield 52, 3) := by decide +kernel
theorem dX10_digest_223 : decode cX10_digest 223 = .ok (.dmul, 1) := by decide +kernel
theorem dX10_digest_224 : decode cX10_digest 224 = .ok (.d2l, 1) := by decide +kernel
theorem dX10_digest_225 : decode cX10_digest 225 = .ok (.invokestatic 321, 3) := by decide +kernel
theorem dX10_digest_228 : decode cX10_digest 228 = .ok (.ldc_w 324, 3) := by decide +kernel
theorem dX10_digest_231 : decode cX10_digest 231 = .ok (.aload_n 0, 1) := by decide +kernel
theorem dX10_digest_232 : decode cX10_digest 232 = .ok (.getfield 28, 3) := by decide +kernel
theorem dX10_digest_235 : decode cX10_digest 235 = .ok (.getfield 252, 3) := by decide +kernel
theorem dX10_digest_238 : decode cX10_digest 238 = .ok (.fmul, 1) := by decide +kernel
theorem dX10_digest_239 : decode cX10_digest 239 = .ok (.f2l, 1) := by decide +kernel
theorem dX10_digest_240 : decode cX10_digest 240 = .ok (.invokestatic 321, 3) := by decide +kernel
theorem dX10_digest_243 : decode cX10_digest 243 = .ok (.aload_n 0, 1) := by decide +kernel
theorem dX10_digest_244 : decode cX10_digest 244 = .ok (.invokevirtual 308, 3) := by decide +kernel
theorem dX10_digest_247 : decode cX10_digest 247 = .ok (.i2l, 1) := by decide +kernel
theorem dX10_digest_248 : decode cX10_digest 248 = .ok (.invokestatic 321, 3) := by decide +kernel
theorem dX10_digest_251 : decode cX10_digest 251 = .ok (.lreturn, 1) := by decide +kernel
end
section
theorem dJ6_bitCount_0f7a4_0 : decode cJ6_bitCount_0f7a4 0 = .ok (.iload_n 0, 1) := by decide +kernel
theorem dJ6_bitCount_0f7a4_1 : decode cJ6_bitCount_0f7a4 1 = .ok (.iload_n 0, 1) := by decide +kernel
theorem dJ6_bitCount_0f7a4_2 : decode cJ6_bitCount_0f7a4 2 = .ok (.iconst 1, 1) := by decide +kernel
theorem dJ6_bitCount_0f7a4_3 : decode cJ6_bitCount_0f7a4 3 = .ok (.iushr, 1) := by decide +kernel
theorem dJ6_bitCount_0f7a4_4 : decode cJ6_bitCount_0f7a4 4 = .ok (.ldc_w 265, 3) := by decide +kernel
theorem dJ6_bitCount_0f7a4_7 : decode cJ6_bitCount_0f7a4 7 = .ok (.iand, 1) := by decide +kernel
theorem dJ6_bitCount_0f7a4_8 : decode cJ6_bitCount_0f7a4 8 = .ok (.isub, 1) := by decide +kernel
theorem dJ6_bitCount_0f7a4_9 : decode cJ6_bitCount_0f7a4 9 = .ok (.istore_n 0, 1) := by decide +kernel
theorem dJ6_bitCount_0f7a4_10 : decode cJ6_bitCount_0f7a4 10 = .ok (.iload_n 0, 1) := by decide +kernel
theorem dJ6_bitCount_0f7a4_11 : decode cJ6_bitCount_0f7a4 11 = .ok (.ldc_w 266, 3) := by decide +kernel
theorem dJ6_bitCount_0f7a4_14 : decode cJ6_bitCount_0f7a4 14 = .ok (.iand, 1) := by decide +kernel
theorem dJ6_bitCount_0f7a4_15 : decode cJ6_bitCount_0f7a4 15 = .ok (.iload_n 0, 1) := by decide +kernel
theorem dJ6_bitCount_0f7a4_16 : decode cJ6_bitCount_0f7a4 16 = .ok (.iconst 2, 1) := by decide +kernel
theorem dJ6_bitCount_0f7a4_17 : decode cJ6_bitCount_0f7a4 17 = .ok (.iushr, 1) := by decide +kernel
theorem dJ6_bitCount_0f7a4_18 : decode cJ6_bitCount_0f7a4 18 = .ok (.ldc_w 266, 3) := by decide +kernel
theorem dJ6_bitCount_0f7a4_21 : decode cJ6_bitCount_0f7a4 21 = .ok (.iand, 1) := by decide +kernel
theorem dJ6_bitCount_0f7a4_22 : decode cJ6_bitCount_0f7a4 22 = .ok (.iadd, 1) := by decide +kernel
theorem dJ6_bitCount_0f7a4_23 : decode cJ6_bitCount_0f7a4 23 = .ok (.istore_n 0, 1) := by decide +kernel
theorem dJ6_bitCount_0f7a4_24 : decode cJ6_bitCount_0f7a4 24 = .ok (.iload_n 0, 1) := by decide +kernel
theorem dJ6_bitCount_0f7a4_25 : decode cJ6_bitCount_0f7a4 25 = .ok (.iload_n 0, 1) := by decide +kernel
theorem dJ6_bitCount_0f7a4_26 : decode cJ6_bitCount_0f7a4 26 = .ok (.iconst 4, 1) := by decide +kernel
theorem dJ6_bitCount_0f7a4_27 : decode cJ6_bitCount_0f7a4 27 = .ok (.iushr, 1) := by decide +kernel
theorem dJ6_bitCount_0f7a4_28 : decode cJ6_bitCount_0f7a4 28 = .ok (.iadd, 1) := by decide +kernel
theorem dJ6_bitCount_0f7a4_29 : decode cJ6_bitCount_0f7a4 29 = .ok (.ldc_w 267, 3) := by decide +kernel
theorem dJ6_bitCount_0f7a4_32 : decode cJ6_bitCount_0f7a4 32 = .ok (.iand, 1) := by decide +kernel
theorem dJ6_bitCount_0f7a4_33 : decode cJ6_bitCount_0f7a4 33 = .ok (.istore_n 0, 1) := by decide +kernel
theorem dJ6_bitCount_0f7a4_34 : decode cJ6_bitCount_0f7a4 34 = .ok (.iload_n 0, 1) := by decide +kernel
theorem dJ6_bitCount_0f7a4_35 : decode cJ6_bitCount_0f7a4 35 = .ok (.iload_n 0, 1) := by decide +kernel
theorem dJ6_bitCount_0f7a4_36 : decode cJ6_bitCount_0f7a4 36 = .ok (.bipush 8, 2) := by decide +kernel
theorem dJ6_bitCount_0f7a4_38 : decode cJ6_bitCount_0f7a4 38 = .ok (.iushr, 1) := by decide +kernel
theorem dJ6_bitCount_0f7a4_39 : decode cJ6_bitCount_0f7a4 39 = .ok (.iadd, 1) := by decide +kernel
theorem dJ6_bitCount_0f7a4_40 : decode cJ6_bitCount_0f7a4 40 = .ok (.istore_n 0, 1) := by decide +kernel
theorem dJ6_bitCount_0f7a4_41 : decode cJ6_bitCount_0f7a4 41 = .ok (.iload_n 0, 1) := by decide +kernel
theorem dJ6_bitCount_0f7a4_42 : decode cJ6_bitCount_0f7a4 42 = .ok (.iload_n 0, 1) := by decide +kernel
theorem dJ6_bitCount_0f7a4_43 : decode cJ6_bitCount_0f7a4 43 = .ok (.bipush 16, 2) := by decide +kernel
theorem dJ6_bitCount_0f7a4_45 : decode cJ6_bitCount_0f7a4 45 = .ok (.iushr, 1) := by decide +kernel
theorem dJ6_bitCount_0f7a4_46 : decode cJ6_bitCount_0f7a4 46 = .ok (.iadd, 1) := by decide +kernel
theorem dJ6_bitCount_0f7a4_47 : decode cJ6_bitCount_0f7a4 47 = .ok (.istore_n 0, 1) := by decide +kernel
theorem dJ6_bitCount_0f7a4_48 : decode cJ6_bitCount_0f7a4 48 = .ok (.iload_n 0, 1) := by decide +kernel
theorem dJ6_bitCount_0f7a4_49 : decode cJ6_bitCount_0f7a4 49 = .ok (.bipush 63, 2) := by decide +kernel
theorem dJ6_bitCount_0f7a4_51 : decode cJ6_bitCount_0f7a4 51 = .ok (.iand, 1) := by decide +kernel
theorem dJ6_bitCount_0f7a4_52 : decode cJ6_bitCount_0f7a4 52 = .ok (.ireturn, 1) := by decide +kernel
theorem dJ9_rint_294c1_0 : decode cJ9_rint_294c1 0 = .ok (.dload_n 0, 1) := by decide +kernel
theorem dJ9_rint_294c1_1 : decode cJ9_rint_294c1 1 = .ok (.invokestatic 59, 3) := by decide +kernel
theorem dJ9_rint_294c1_4 : decode cJ9_rint_294c1 4 = .ok (.dreturn, 1) := by decide +kernel
theorem dJ9_abs_294c1_0 : decode cJ9_abs_294c1 0 = .ok (.dload_n 0, 1) := by decide +kernel
theorem dJ9_abs_294c1_1 : decode cJ9_abs_294c1 1 = .ok (.invokestatic 79, 3) := by decide +kernel
theorem dJ9_abs_294c1_4 : decode cJ9_abs_294c1 4 = .ok (.ldc2_w 135, 3) := by decide +kernel
theorem dJ9_abs_294c1_7 : decode cJ9_abs_294c1 7 = .ok (.land, 1) := by decide +kernel
theorem dJ9_abs_294c1_8 : decode cJ9_abs_294c1 8 = .ok (.invokestatic 166, 3) := by decide +kernel
theorem dJ9_abs_294c1_11 : decode cJ9_abs_294c1 11 = .ok (.dreturn, 1) := by decide +kernel
theorem dJ9_max_7cf53_0 : decode cJ9_max_7cf53 0 = .ok (.iload_n 0, 1) := by decide +kernel
theorem dJ9_max_7cf53_1 : decode cJ9_max_7cf53 1 = .ok (.iload_n 1, 1) := by decide +kernel
theorem dJ9_max_7cf53_2 : decode cJ9_max_7cf53 2 = .ok (.if_icmp .lt 7, 3) := by decide +kernel
theorem dJ9_max_7cf53_5 : decode cJ9_max_7cf53 5 = .ok (.iload_n 0, 1) := by decide +kernel
theorem dJ9_max_7cf53_6 : decode cJ9_max_7cf53 6 = .ok (.goto 4, 3) := by decide +kernel
theorem dJ9_max_7cf53_9 : decode cJ9_max_7cf53 9 = .ok (.iload_n 1, 1) := by decide +kernel
theorem dJ9_max_7cf53_10 : decode cJ9_max_7cf53 10 = .ok (.ireturn, 1) := by decide +kernel
theorem dJ9_max_eb370_0 : decode cJ9_max_eb370 0 = .ok (.dload_n 0, 1) := by decide +kernel
theorem dJ9_max_eb370_1 : decode cJ9_max_eb370 1 = .ok (.dload_n 0, 1) := by decide +kernel
theorem dJ9_max_eb370_2 : decode cJ9_max_eb370 2 = .ok (.dcmp .l, 1) := by decide +kernel
theorem dJ9_max_eb370_3 : decode cJ9_max_eb370 3 = .ok (.ifCond .eq 5, 3) := by decide +kernel
theorem dJ9_max_eb370_6 : decode cJ9_max_eb370 6 = .ok (.dload_n 0, 1) := by decide +kernel
theorem dJ9_max_eb370_7 : decode cJ9_max_eb370 7 = .ok (.dreturn, 1) := by decide +kernel
theorem dJ9_max_eb370_8 : decode cJ9_max_eb370 8 = .ok (.dload_n 0, 1) := by decide +kernel
theorem dJ9_max_eb370_9 : decode cJ9_max_eb370 9 = .ok (.dconst 0, 1) := by decide +kernel
theorem dJ9_max_eb370_10 : decode cJ9_max_eb370 10 = .ok (.dcmp .l, 1) := by decide +kernel
theorem dJ9_max_eb370_11 : decode cJ9_max_eb370 11 = .ok (.ifCond .ne 22, 3) := by decide +kernel
theorem dJ9_max_eb370_14 : decode cJ9_max_eb370 14 = .ok (.dload_n 2, 1) := by decide +kernel
theorem dJ9_max_eb370_15 : decode cJ9_max_eb370 15 = .ok (.dconst 0, 1) := by decide +kernel
theorem dJ9_max_eb370_16 : decode cJ9_max_eb370 16 = .ok (.dcmp .l, 1) := by decide +kernel
theorem dJ9_max_eb370_17 : decode cJ9_max_eb370 17 = .ok (.ifCond .ne 16, 3) := by decide +kernel
theorem dJ9_max_eb370_20 : decode cJ9_max_eb370 20 = .ok (.dload_n 0, 1) := by decide +kernel
theorem dJ9_max_eb370_21 : decode cJ9_max_eb370 21 = .ok (.invokestatic 79, 3) := by decide +kernel
theorem dJ9_max_eb370_24 : decode cJ9_max_eb370 24 = .ok (.getstatic 174, 3) := by decide +kernel
theorem dJ9_max_eb370_27 : decode cJ9_max_eb370 27 = .ok (.lcmp, 1) := by decide +kernel
theorem dJ9_max_eb370_28 : decode cJ9_max_eb370 28 = .ok (.ifCond .ne 5, 3) := by decide +kernel
theorem dJ9_max_eb370_31 : decode cJ9_max_eb370 31 = .ok (.dload_n 2, 1) := by decide +kernel
theorem dJ9_max_eb370_32 : decode cJ9_max_eb370 32 = .ok (.dreturn, 1) := by decide +kernel
theorem dJ9_max_eb370_33 : decode cJ9_max_eb370 33 = .ok (.dload_n 0, 1) := by decide +kernel
theorem dJ9_max_eb370_34 : decode cJ9_max_eb370 34 = .ok (.dload_n 2, 1) := by decide +kernel
theorem dJ9_max_eb370_35 : decode cJ9_max_eb370 35 = .ok (.dcmp .l, 1) := by decide +kernel
theorem dJ9_max_eb370_36 : decode cJ9_max_eb370 36 = .ok (.ifCond .lt 7, 3) := by decide +kernel
theorem dJ9_max_eb370_39 : decode cJ9_max_eb370 39 = .ok (.dload_n 0, 1) := by decide +kernel
theorem dJ9_max_eb370_40 : decode cJ9_max_eb370 40 = .ok (.goto 4, 3) := by decide +kernel
theorem dJ9_max_eb370_43 : decode cJ9_max_eb370 43 = .ok (.dload_n 2, 1) := by decide +kernel
theorem dJ9_max_eb370_44 : decode cJ9_max_eb370 44 = .ok (.dreturn, 1) := by decide +kernel
theorem dJ9_min_7cf53_0 : decode cJ9_min_7cf53 0 = .ok (.iload_n 0, 1) := by decide +kernel
theorem dJ9_min_7cf53_1 : decode cJ9_min_7cf53 1 = .ok (.iload_n 1, 1) := by decide +kernel
theorem dJ9_min_7cf53_2 : decode cJ9_min_7cf53 2 = .ok (.if_icmp .gt 7, 3) := by decide +kernel
theorem dJ9_min_7cf53_5 : decode cJ9_min_7cf53 5 = .ok (.iload_n 0, 1) := by decide +kernel
theorem dJ9_min_7cf53_6 : decode cJ9_min_7cf53 6 = .ok (.goto 4, 3) := by decide +kernel
theorem dJ9_min_7cf53_9 : decode cJ9_min_7cf53 9 = .ok (.iload_n 1, 1) := by decide +kernel
theorem dJ9_min_7cf53_10 : decode cJ9_min_7cf53 10 = .ok (.ireturn, 1) := by decide +kernel
theorem dJ9_min_e70c8_0 : decode cJ9_min_e70c8 0 = .ok (.fload_n 0, 1) := by decide +kernel
theorem dJ9_min_e70c8_1 : decode cJ9_min_e70c8 1 = .ok (.fload_n 0, 1) := by decide +kernel
theorem dJ9_min_e70c8_2 : decode cJ9_min_e70c8 2 = .ok (.fcmp .l, 1) := by decide +kernel
theorem dJ9_min_e70c8_3 : decode cJ9_min_e70c8 3 = .ok (.ifCond .eq 5, 3) := by decide +kernel
theorem dJ9_min_e70c8_6 : decode cJ9_min_e70c8 6 = .ok (.fload_n 0, 1) := by decide +kernel
theorem dJ9_min_e70c8_7 : decode cJ9_min_e70c8 7 = .ok (.freturn, 1) := by decide +kernel
theorem dJ9_min_e70c8_8 : decode cJ9_min_e70c8 8 = .ok (.fload_n 0, 1) := by decide +kernel
theorem dJ9_min_e70c8_9 : decode cJ9_min_e70c8 9 = .ok (.fconst 0, 1) := by decide +kernel
theorem dJ9_min_e70c8_10 : decode cJ9_min_e70c8 10 = .ok (.fcmp .l, 1) := by decide +kernel
theorem dJ9_min_e70c8_11 : decode cJ9_min_e70c8 11 = .ok (.ifCond .ne 23, 3) := by decide +kernel
theorem dJ9_min_e70c8_14 : decode cJ9_min_e70c8 14 = .ok (.fload_n 1, 1) := by decide +kernel
theorem dJ9_min_e70c8_15 : decode cJ9_min_e70c8 15 = .ok (.fconst 0, 1) := by decide +kernel
theorem dJ9_min_e70c8_16 : decode cJ9_min_e70c8 16 = .ok (.fcmp .l, 1) := by decide +kernel
theorem dJ9_min_e70c8_17 : decode cJ9_min_e70c8 17 = .ok (.ifCond .ne 17, 3) := by decide +kernel
theorem dJ9_min_e70c8_20 : decode cJ9_min_e70c8 20 = .ok (.fload_n 1, 1) := by decide +kernel
theorem dJ9_min_e70c8_21 : decode cJ9_min_e70c8 21 = .ok (.invokestatic 68, 3) := by decide +kernel
theorem dJ9_min_e70c8_24 : decode cJ9_min_e70c8 24 = .ok (.i2l, 1) := by decide +kernel
theorem dJ9_min_e70c8_25 : decode cJ9_min_e70c8 25 = .ok (.getstatic 170, 3) := by decide +kernel
theorem dJ9_min_e70c8_28 : decode cJ9_min_e70c8 28 = .ok (.lcmp, 1) := by decide +kernel
theorem dJ9_min_e70c8_29 : decode cJ9_min_e70c8 29 = .ok (.ifCond .ne 5, 3) := by decide +kernel
theorem dJ9_min_e70c8_32 : decode cJ9_min_e70c8 32 = .ok (.fload_n 1, 1) := by decide +kernel
theorem dJ9_min_e70c8_33 : decode cJ9_min_e70c8 33 = .ok (.freturn, 1) := by decide +kernel
theorem dJ9_min_e70c8_34 : decode cJ9_min_e70c8 34 = .ok (.fload_n 0, 1) := by decide +kernel
theorem dJ9_min_e70c8_35 : decode cJ9_min_e70c8 35 = .ok (.fload_n 1, 1) := by decide +kernel
theorem dJ9_min_e70c8_36 : decode cJ9_min_e70c8 36 = .ok (.fcmp .g, 1) := by decide +kernel
theorem dJ9_min_e70c8_37 : decode cJ9_min_e70c8 37 = .ok (.ifCond .gt 7, 3) := by decide +kernel
theorem dJ9_min_e70c8_40 : decode cJ9_min_e70c8 40 = .ok (.fload_n 0, 1) := by decide +kernel
theorem dJ9_min_e70c8_41 : decode cJ9_min_e70c8 41 = .ok (.goto 4, 3) := by decide +kernel
theorem dJ9_min_e70c8_44 : decode cJ9_min_e70c8 44 = .ok (.fload_n 1, 1) := by decide +kernel
theorem dJ9_min_e70c8_45 : decode cJ9_min_e70c8 45 = .ok (.freturn, 1) := by decide +kernel
theorem dJ9_min_eb370_0 : decode cJ9_min_eb370 0 = .ok (.dload_n 0, 1) := by decide +kernel
theorem dJ9_min_eb370_1 : decode cJ9_min_eb370 1 = .ok (.dload_n 0, 1) := by decide +kernel
theorem dJ9_min_eb370_2 : decode cJ9_min_eb370 2 = .ok (.dcmp .l, 1) := by decide +kernel
theorem dJ9_min_eb370_3 : decode cJ9_min_eb370 3 = .ok (.ifCond .eq 5, 3) := by decide +kernel
theorem dJ9_min_eb370_6 : decode cJ9_min_eb370 6 = .ok (.dload_n 0, 1) := by decide +kernel
theorem dJ9_min_eb370_7 : decode cJ9_min_eb370 7 = .ok (.dreturn, 1) := by decide +kernel
theorem dJ9_min_eb370_8 : decode cJ9_min_eb370 8 = .ok (.dload_n 0, 1) := by decide +kernel
theorem dJ9_min_eb370_9 : decode cJ9_min_eb370 9 = .ok (.dconst 0, 1) := by decide +kernel
theorem dJ9_min_eb370_10 : decode cJ9_min_eb370 10 = .ok (.dcmp .l, 1) := by decide +kernel
theorem dJ9_min_eb370_11 : decode cJ9_min_eb370 11 = .ok (.ifCond .ne 22, 3) := by decide +kernel
theorem dJ9_min_eb370_14 : decode cJ9_min_eb370 14 = .ok (.dload_n 2, 1) := by decide +kernel
theorem dJ9_min_eb370_15 : decode cJ9_min_eb370 15 = .ok (.dconst 0, 1) := by decide +kernel
theorem dJ9_min_eb370_16 : decode cJ9_min_eb370 16 = .ok (.dcmp .l, 1) := by decide +kernel
theorem dJ9_min_eb370_17 : decode cJ9_min_eb370 17 = .ok (.ifCond .ne 16, 3) := by decide +kernel
theorem dJ9_min_eb370_20 : decode cJ9_min_eb370 20 = .ok (.dload_n 2, 1) := by decide +kernel
theorem dJ9_min_eb370_21 : decode cJ9_min_eb370 21 = .ok (.invokestatic 79, 3) := by decide +kernel
theorem dJ9_min_eb370_24 : decode cJ9_min_eb370 24 = .ok (.getstatic 174, 3) := by decide +kernel
theorem dJ9_min_eb370_27 : decode cJ9_min_eb370 27 = .ok (.lcmp, 1) := by decide +kernel
theorem dJ9_min_eb370_28 : decode cJ9_min_eb370 28 = .ok (.ifCond .ne 5, 3) := by decide +kernel
theorem dJ9_min_eb370_31 : decode cJ9_min_eb370 31 = .ok (.dload_n 2, 1) := by decide +kernel
theorem dJ9_min_eb370_32 : decode cJ9_min_eb370 32 = .ok (.dreturn, 1) := by decide +kernel
theorem dJ9_min_eb370_33 : decode cJ9_min_eb370 33 = .ok (.dload_n 0, 1) := by decide +kernel
theorem dJ9_min_eb370_34 : decode cJ9_min_eb370 34 = .ok (.dload_n 2, 1) := by decide +kernel
theorem dJ9_min_eb370_35 : decode cJ9_min_eb370 35 = .ok (.dcmp .g, 1) := by decide +kernel
theorem dJ9_min_eb370_36 : decode cJ9_min_eb370 36 = .ok (.ifCond .gt 7, 3) := by decide +kernel
theorem dJ9_min_eb370_39 : decode cJ9_min_eb370 39 = .ok (.dload_n 0, 1) := by decide +kernel
theorem dJ9_min_eb370_40 : decode cJ9_min_eb370 40 = .ok (.goto 4, 3) := by decide +kernel
theorem dJ9_min_eb370_43 : decode cJ9_min_eb370 43 = .ok (.dload_n 2, 1) := by decide +kernel
theorem dJ9_min_eb370_44 : decode cJ9_min_eb370 44 = .ok (.dreturn, 1) := by decide +kernel
theorem dJ9_copySign_eb370_0 : decode cJ9_copySign_eb370 0 = .ok (.dload_n 2, 1) := by decide +kernel
theorem dJ9_copySign_eb370_1 : decode cJ9_copySign_eb370 1 = .ok (.invokestatic 79, 3) := by decide +kernel
theorem dJ9_copySign_eb370_4 : decode cJ9_copySign_eb370 4 = .ok (.ldc2_w 128, 3) := by decide +kernel
theorem dJ9_copySign_eb370_7 : decode cJ9_copySign_eb370 7 = .ok (.land, 1) := by decide +kernel
theorem dJ9_copySign_eb370_8 : decode cJ9_copySign_eb370 8 = .ok (.dload_n 0, 1) := by decide +kernel
theorem dJ9_copySign_eb370_9 : decode cJ9_copySign_eb370 9 = .ok (.invokestatic 79, 3) := by decide +kernel
theorem dJ9_copySign_eb370_12 : decode cJ9_copySign_eb370 12 = .ok (.ldc2_w 135, 3) := by decide +kernel
theorem dJ9_copySign_eb370_15 : decode cJ9_copySign_eb370 15 = .ok (.land, 1) := by decide +kernel
theorem dJ9_copySign_eb370_16 : decode cJ9_copySign_eb370 16 = .ok (.lor, 1) := by decide +kernel
theorem dJ9_copySign_eb370_17 : decode cJ9_copySign_eb370 17 = .ok (.invokestatic 166, 3) := by decide +kernel
theorem dJ9_copySign_eb370_20 : decode cJ9_copySign_eb370 20 = .ok (.dreturn, 1) := by decide +kernel
theorem dJxfc994_rint_294c1_0 : decode cJxfc994_rint_294c1 0 = .ok (.ldc2_w 93, 3) := by decide +kernel
theorem dJxfc994_rint_294c1_3 : decode cJxfc994_rint_294c1 3 = .ok (.dstore_n 2, 1) := by decide +kernel
theorem dJxfc994_rint_294c1_4 : decode cJxfc994_rint_294c1 4 = .ok (.dconst 1, 1) := by decide +kernel
theorem dJxfc994_rint_294c1_5 : decode cJxfc994_rint_294c1 5 = .ok (.dload_n 0, 1) := by decide +kernel
theorem dJxfc994_rint_294c1_6 : decode cJxfc994_rint_294c1 6 = .ok (.invokestatic 95, 3) := by decide +kernel
theorem dJxfc994_rint_294c1_9 : decode cJxfc994_rint_294c1 9 = .ok (.dstore 4, 2) := by decide +kernel
theorem dJxfc994_rint_294c1_11 : decode cJxfc994_rint_294c1 11 = .ok (.dload_n 0, 1) := by decide +kernel
theorem dJxfc994_rint_294c1_12 : decode cJxfc994_rint_294c1 12 = .ok (.invokestatic 98, 3) := by decide +kernel
theorem dJxfc994_rint_294c1_15 : decode cJxfc994_rint_294c1 15 = .ok (.dstore_n 0, 1) := by decide +kernel
theorem dJxfc994_rint_294c1_16 : decode cJxfc994_rint_294c1 16 = .ok (.dload_n 0, 1) := by decide +kernel
theorem dJxfc994_rint_294c1_17 : decode cJxfc994_rint_294c1 17 = .ok (.dload_n 2, 1) := by decide +kernel
theorem dJxfc994_rint_294c1_18 : decode cJxfc994_rint_294c1 18 = .ok (.dcmp .g, 1) := by decide +kernel
theorem dJxfc994_rint_294c1_19 : decode cJxfc994_rint_294c1 19 = .ok (.ifCond .ge 9, 3) := by decide +kernel
theorem dJxfc994_rint_294c1_22 : decode cJxfc994_rint_294c1 22 = .ok (.dload_n 2, 1) := by decide +kernel
theorem dJxfc994_rint_294c1_23 : decode cJxfc994_rint_294c1 23 = .ok (.dload_n 0, 1) := by decide +kernel
theorem dJxfc994_rint_294c1_24 : decode cJxfc994_rint_294c1 24 = .ok (.dadd, 1) := by decide +kernel
theorem dJxfc994_rint_294c1_25 : decode cJxfc994_rint_294c1 25 = .ok (.dload_n 2, 1) := by decide +kernel
theorem dJxfc994_rint_294c1_26 : decode cJxfc994_rint_294c1 26 = .ok (.dsub, 1) := by decide +kernel
theorem dJxfc994_rint_294c1_27 : decode cJxfc994_rint_294c1 27 = .ok (.dstore_n 0, 1) := by decide +kernel
theorem dJxfc994_rint_294c1_28 : decode cJxfc994_rint_294c1 28 = .ok (.dload 4, 2) := by decide +kernel
theorem dJxfc994_rint_294c1_30 : decode cJxfc994_rint_294c1 30 = .ok (.dload_n 0, 1) := by decide +kernel
theorem dJxfc994_rint_294c1_31 : decode cJxfc994_rint_294c1 31 = .ok (.dmul, 1) := by decide +kernel
theorem dJxfc994_rint_294c1_32 : decode cJxfc994_rint_294c1 32 = .ok (.dreturn, 1) := by decide +kernel
theorem dJxa1e45_init_da8c8_0 : decode cJxa1e45_init_da8c8 0 = .ok (.aload_n 0, 1) := by decide +kernel
theorem dJxa1e45_init_da8c8_1 : decode cJxa1e45_init_da8c8 1 = .ok (.invokespecial 1, 3) := by decide +kernel
theorem dJxa1e45_init_da8c8_4 : decode cJxa1e45_init_da8c8 4 = .ok (.return_, 1) := by decide +kernel
theorem dJxc12de_init_da8c8_0 : decode cJxc12de_init_da8c8 0 = .ok (.aload_n 0, 1) := by decide +kernel
theorem dJxc12de_init_da8c8_1 : decode cJxc12de_init_da8c8 1 = .ok (.invokespecial 1, 3) := by decide +kernel
theorem dJxc12de_init_da8c8_4 : decode cJxc12de_init_da8c8 4 = .ok (.aload_n 0, 1) := by decide +kernel
theorem dJxc12de_init_da8c8_5 : decode cJxc12de_init_da8c8 5 = .ok (.iconst 0, 1) := by decide +kernel
theorem dJxc12de_init_da8c8_6 : decode cJxc12de_init_da8c8 6 = .ok (.putfield 7, 3) := by decide +kernel
theorem dJxc12de_init_da8c8_9 : decode cJxc12de_init_da8c8 9 = .ok (.return_, 1) := by decide +kernel
theorem dJx35411_init_45d68_0 : decode cJx35411_init_45d68 0 = .ok (.aload_n 0, 1) := by decide +kernel
theorem dJx35411_init_45d68_1 : decode cJx35411_init_45d68 1 = .ok (.aload_n 1, 1) := by decide +kernel
theorem dJx35411_init_45d68_2 : decode cJx35411_init_45d68 2 = .ok (.putfield 1, 3) := by decide +kernel
theorem dJx35411_init_45d68_5 : decode cJx35411_init_45d68 5 = .ok (.aload_n 0, 1) := by decide +kernel
theorem dJx35411_init_45d68_6 : decode cJx35411_init_45d68 6 = .ok (.invokespecial 7, 3) := by decide +kernel
theorem dJx35411_init_45d68_9 : decode cJx35411_init_45d68 9 = .ok (.aload_n 0, 1) := by decide +kernel
theorem dJx35411_init_45d68_10 : decode cJx35411_init_45d68 10 = .ok (.iconst (-1), 1) := by decide +kernel
theorem dJx35411_init_45d68_11 : decode cJx35411_init_45d68 11 = .ok (.putfield 13, 3) := by decide +kernel
theorem dJx35411_init_45d68_14 : decode cJx35411_init_45d68 14 = .ok (.aload_n 0, 1) := by decide +kernel
theorem dJx35411_init_45d68_15 : decode cJx35411_init_45d68 15 = .ok (.aload_n 0, 1) := by decide +kernel
theorem dJx35411_init_45d68_16 : decode cJx35411_init_45d68 16 = .ok (.getfield 1, 3) := by decide +kernel
theorem dJx35411_init_45d68_19 : decode cJx35411_init_45d68 19 = .ok (.getfield 17, 3) := by decide +kernel
theorem dJx35411_init_45d68_22 : decode cJx35411_init_45d68 22 = .ok (.putfield 22, 3) := by decide +kernel
theorem dJx35411_init_45d68_25 : decode cJx35411_init_45d68 25 = .ok (.return_, 1) := by decide +kernel
theorem dJx35411_hasNext_aae02_0 : decode cJx35411_hasNext_aae02 0 = .ok (.aload_n 0, 1) := by decide +kernel
theorem dJx35411_hasNext_aae02_1 : decode cJx35411_hasNext_aae02 1 = .ok (.getfield 25, 3) := by decide +kernel
theorem dJx35411_hasNext_aae02_4 : decode cJx35411_hasNext_aae02 4 = .ok (.aload_n 0, 1) := by decide +kernel
theorem dJx35411_hasNext_aae02_5 : decode cJx35411_hasNext_aae02 5 = .ok (.getfield 1, 3) := by decide +kernel
theorem dJx35411_hasNext_aae02_8 : decode cJx35411_hasNext_aae02 8 = .ok (.getfield 28, 3) := by decide +kernel
theorem dJx35411_hasNext_aae02_11 : decode cJx35411_hasNext_aae02 11 = .ok (.if_icmp .eq 7, 3) := by decide +kernel
theorem dJx35411_hasNext_aae02_14 : decode cJx35411_hasNext_aae02 14 = .ok (.iconst 1, 1) := by decide +kernel
theorem dJx35411_hasNext_aae02_15 : decode cJx35411_hasNext_aae02 15 = .ok (.goto 4, 3) := by decide +kernel
theorem dJx35411_hasNext_aae02_18 : decode cJx35411_hasNext_aae02 18 = .ok (.iconst 0, 1) := by decide +kernel
theorem dJx35411_hasNext_aae02_19 : decode cJx35411_hasNext_aae02 19 = .ok (.ireturn, 1) := by decide +kernel
theorem dJx35411_next_0502b_0 : decode cJx35411_next_0502b 0 = .ok (.aload_n 0, 1) := by decide +kernel
theorem dJx35411_next_0502b_1 : decode cJx35411_next_0502b 1 = .ok (.invokevirtual 31, 3) := by decide +kernel
theorem dJx35411_next_0502b_4 : decode cJx35411_next_0502b 4 = .ok (.aload_n 0, 1) := by decide +kernel
theorem dJx35411_next_0502b_5 : decode cJx35411_next_0502b 5 = .ok (.getfield 25, 3) := by decide +kernel
theorem dJx35411_next_0502b_8 : decode cJx35411_next_0502b 8 = .ok (.istore_n 1, 1) := by decide +kernel
theorem dJx35411_next_0502b_9 : decode cJx35411_next_0502b 9 = .ok (.iload_n 1, 1) := by decide +kernel
theorem dJx35411_next_0502b_10 : decode cJx35411_next_0502b 10 = .ok (.aload_n 0, 1) := by decide +kernel
theorem dJx35411_next_0502b_11 : decode cJx35411_next_0502b 11 = .ok (.getfield 1, 3) := by decide +kernel
theorem dJx35411_next_0502b_14 : decode cJx35411_next_0502b 14 = .ok (.getfield 28, 3) := by decide +kernel
theorem dJx35411_next_0502b_17 : decode cJx35411_next_0502b 17 = .ok (.if_icmp .lt 11, 3) := by decide +kernel
theorem dJx35411_next_0502b_20 : decode cJx35411_next_0502b 20 = .ok (.new 34, 3) := by decide +kernel
theorem dJx35411_next_0502b_23 : decode cJx35411_next_0502b 23 = .ok (.dup, 1) := by decide +kernel
theorem dJx35411_next_0502b_24 : decode cJx35411_next_0502b 24 = .ok (.invokespecial 36, 3) := by decide +kernel
theorem dJx35411_next_0502b_27 : decode cJx35411_next_0502b 27 = .ok (.athrow, 1) := by decide +kernel
theorem dJx35411_next_0502b_28 : decode cJx35411_next_0502b 28 = .ok (.aload_n 0, 1) := by decide +kernel
theorem dJx35411_next_0502b_29 : decode cJx35411_next_0502b 29 = .ok (.getfield 1, 3) := by decide +kernel
theorem dJx35411_next_0502b_32 : decode cJx35411_next_0502b 32 = .ok (.getfield 37, 3) := by decide +kernel
theorem dJx35411_next_0502b_35 : decode cJx35411_next_0502b 35 = .ok (.astore_n 2, 1) := by decide +kernel
theorem dJx35411_next_0502b_36 : decode cJx35411_next_0502b 36 = .ok (.iload_n 1, 1) := by decide +kernel
theorem dJx35411_next_0502b_37 : decode cJx35411_next_0502b 37 = .ok (.aload_n 2, 1) := by decide +kernel
theorem dJx35411_next_0502b_38 : decode cJx35411_next_0502b 38 = .ok (.arraylength, 1) := by decide +kernel
theorem dJx35411_next_0502b_39 : decode cJx35411_next_0502b 39 = .ok (.if_icmp .lt 11, 3) := by decide +kernel
theorem dJx35411_next_0502b_42 : decode cJx35411_next_0502b 42 = .ok (.new 41, 3) := by decide +kernel
theorem dJx35411_next_0502b_45 : decode cJx35411_next_0502b 45 = .ok (.dup, 1) := by decide +kernel
theorem dJx35411_next_0502b_46 : decode cJx35411_next_0502b 46 = .ok (.invokespecial 43, 3) := by decide +kernel
theorem dJx35411_next_0502b_49 : decode cJx35411_next_0502b 49 = .ok (.athrow, 1) := by decide +kernel
theorem dJx35411_next_0502b_50 : decode cJx35411_next_0502b 50 = .ok (.aload_n 0, 1) := by decide +kernel
theorem dJx35411_next_0502b_51 : decode cJx35411_next_0502b 51 = .ok (.iload_n 1, 1) := by decide +kernel
theorem dJx35411_next_0502b_52 : decode cJx35411_next_0502b 52 = .ok (.iconst 1, 1) := by decide +kernel
theorem dJx35411_next_0502b_53 : decode cJx35411_next_0502b 53 = .ok (.iadd, 1) := by decide +kernel
theorem dJx35411_next_0502b_54 : decode cJx35411_next_0502b 54 = .ok (.putfield 25, 3) := by decide +kernel
theorem dJx35411_next_0502b_57 : decode cJx35411_next_0502b 57 = .ok (.aload_n 2, 1) := by decide +kernel
theorem dJx35411_next_0502b_58 : decode cJx35411_next_0502b 58 = .ok (.aload_n 0, 1) := by decide +kernel
theorem dJx35411_next_0502b_59 : decode cJx35411_next_0502b 59 = .ok (.iload_n 1, 1) := by decide +kernel
theorem dJx35411_next_0502b_60 : decode cJx35411_next_0502b 60 = .ok (.dup_x1, 1) := by decide +kernel
theorem dJx35411_next_0502b_61 : decode cJx35411_next_0502b 61 = .ok (.putfield 13, 3) := by decide +kernel
theorem dJx35411_next_0502b_64 : decode cJx35411_next_0502b 64 = .ok (.aaload, 1) := by decide +kernel
theorem dJx35411_next_0502b_65 : decode cJx35411_next_0502b 65 = .ok (.areturn, 1) := by decide +kernel
theorem dJx35411_checkForComodification_da8c8_0 : decode cJx35411_checkForComodification_da8c8 0 = .ok (.aload_n 0, 1) := by decide +kernel
theorem dJx35411_checkForComodification_da8c8_1 : decode cJx35411_checkForComodification_da8c8 1 = .ok (.getfield 1, 3) := by decide +kernel
theorem dJx35411_checkForComodification_da8c8_4 : decode cJx35411_checkForComodification_da8c8 4 = .ok (.getfield 17, 3) := by decide +kernel
theorem dJx35411_checkForComodification_da8c8_7 : decode cJx35411_checkForComodification_da8c8 7 = .ok (.aload_n 0, 1) := by decide +kernel
theorem dJx35411_checkForComodification_da8c8_8 : decode cJx35411_checkForComodification_da8c8 8 = .ok (.getfield 22, 3) := by decide +kernel
theorem dJx35411_checkForComodification_da8c8_11 : decode cJx35411_checkForComodification_da8c8 11 = .ok (.if_icmp .eq 11, 3) := by decide +kernel
theorem dJx35411_checkForComodification_da8c8_14 : decode cJx35411_checkForComodification_da8c8 14 = .ok (.new 41, 3) := by decide +kernel
theorem dJx35411_checkForComodification_da8c8_17 : decode cJx35411_checkForComodification_da8c8 17 = .ok (.dup, 1) := by decide +kernel
theorem dJx35411_checkForComodification_da8c8_18 : decode cJx35411_checkForComodification_da8c8 18 = .ok (.invokespecial 43, 3) := by decide +kernel
theorem dJx35411_checkForComodification_da8c8_21 : decode cJx35411_checkForComodification_da8c8 21 = .ok (.athrow, 1) := by decide +kernel
theorem dJx35411_checkForComodification_da8c8_22 : decode cJx35411_checkForComodification_da8c8 22 = .ok (.return_, 1) := by decide +kernel
theorem dJx4a65c_init_da8c8_0 : decode cJx4a65c_init_da8c8 0 = .ok (.aload_n 0, 1) := by decide +kernel
theorem dJx4a65c_init_da8c8_1 : decode cJx4a65c_init_da8c8 1 = .ok (.invokespecial 1, 3) := by decide +kernel
theorem dJx4a65c_init_da8c8_4 : decode cJx4a65c_init_da8c8 4 = .ok (.aload_n 0, 1) := by decide +kernel
theorem dJx4a65c_init_da8c8_5 : decode cJx4a65c_init_da8c8 5 = .ok (.getstatic 39, 3) := by decide +kernel
theorem dJx4a65c_init_da8c8_8 : decode cJx4a65c_init_da8c8 8 = .ok (.putfield 9, 3) := by decide +kernel
theorem dJx4a65c_init_da8c8_11 : decode cJx4a65c_init_da8c8 11 = .ok (.return_, 1) := by decide +kernel
theorem dJx4a65c_grow_92f84_0 : decode cJx4a65c_grow_92f84 0 = .ok (.aload_n 0, 1) := by decide +kernel
theorem dJx4a65c_grow_92f84_1 : decode cJx4a65c_grow_92f84 1 = .ok (.getfield 9, 3) := by decide +kernel
theorem dJx4a65c_grow_92f84_4 : decode cJx4a65c_grow_92f84 4 = .ok (.arraylength, 1) := by decide +kernel
theorem dJx4a65c_grow_92f84_5 : decode cJx4a65c_grow_92f84 5 = .ok (.istore_n 2, 1) := by decide +kernel
theorem dJx4a65c_grow_92f84_6 : decode cJx4a65c_grow_92f84 6 = .ok (.iload_n 2, 1) := by decide +kernel
theorem dJx4a65c_grow_92f84_7 : decode cJx4a65c_grow_92f84 7 = .ok (.ifCond .gt 13, 3) := by decide +kernel
theorem dJx4a65c_grow_92f84_10 : decode cJx4a65c_grow_92f84 10 = .ok (.aload_n 0, 1) := by decide +kernel
theorem dJx4a65c_grow_92f84_11 : decode cJx4a65c_grow_92f84 11 = .ok (.getfield 9, 3) := by decide +kernel
theorem dJx4a65c_grow_92f84_14 : decode cJx4a65c_grow_92f84 14 = .ok (.getstatic 39, 3) := by decide +kernel
theorem dJx4a65c_grow_92f84_17 : decode cJx4a65c_grow_92f84 17 = .ok (.if_acmp .eq 28, 3) := by decide +kernel
theorem dJx4a65c_grow_92f84_20 : decode cJx4a65c_grow_92f84 20 = .ok (.iload_n 2, 1) := by decide +kernel
theorem dJx4a65c_grow_92f84_21 : decode cJx4a65c_grow_92f84 21 = .ok (.iload_n 1, 1) := by decide +kernel
theorem dJx4a65c_grow_92f84_22 : decode cJx4a65c_grow_92f84 22 = .ok (.iload_n 2, 1) := by decide +kernel
theorem dJx4a65c_grow_92f84_23 : decode cJx4a65c_grow_92f84 23 = .ok (.isub, 1) := by decide +kernel
theorem dJx4a65c_grow_92f84_24 : decode cJx4a65c_grow_92f84 24 = .ok (.iload_n 2, 1) := by decide +kernel
theorem dJx4a65c_grow_92f84_25 : decode cJx4a65c_grow_92f84 25 = .ok (.iconst 1, 1) := by decide +kernel
theorem dJx4a65c_grow_92f84_26 : decode cJx4a65c_grow_92f84 26 = .ok (.ishr, 1) := by decide +kernel
theorem dJx4a65c_grow_92f84_27 : decode cJx4a65c_grow_92f84 27 = .ok (.invokestatic 73, 3) := by decide +kernel
theorem dJx4a65c_grow_92f84_30 : decode cJx4a65c_grow_92f84 30 = .ok (.istore_n 3, 1) := by decide +kernel
theorem dJx4a65c_grow_92f84_31 : decode cJx4a65c_grow_92f84 31 = .ok (.aload_n 0, 1) := by decide +kernel
theorem dJx4a65c_grow_92f84_32 : decode cJx4a65c_grow_92f84 32 = .ok (.aload_n 0, 1) := by decide +kernel
theorem dJx4a65c_grow_92f84_33 : decode cJx4a65c_grow_92f84 33 = .ok (.getfield 9, 3) := by decide +kernel
theorem dJx4a65c_grow_92f84_36 : decode cJx4a65c_grow_92f84 36 = .ok (.iload_n 3, 1) := by decide +kernel
theorem dJx4a65c_grow_92f84_37 : decode cJx4a65c_grow_92f84 37 = .ok (.invokestatic 66, 3) := by decide +kernel
theorem dJx4a65c_grow_92f84_40 : decode cJx4a65c_grow_92f84 40 = .ok (.dup_x1, 1) := by decide +kernel
theorem dJx4a65c_grow_92f84_41 : decode cJx4a65c_grow_92f84 41 = .ok (.putfield 9, 3) := by decide +kernel
theorem dJx4a65c_grow_92f84_44 : decode cJx4a65c_grow_92f84 44 = .ok (.areturn, 1) := by decide +kernel
theorem dJx4a65c_grow_92f84_45 : decode cJx4a65c_grow_92f84 45 = .ok (.aload_n 0, 1) := by decide +kernel
theorem dJx4a65c_grow_92f84_46 : decode cJx4a65c_grow_92f84 46 = .ok (.bipush 10, 2) := by decide +kernel
theorem dJx4a65c_grow_92f84_48 : decode cJx4a65c_grow_92f84 48 = .ok (.iload_n 1, 1) := by decide +kernel
theorem dJx4a65c_grow_92f84_49 : decode cJx4a65c_grow_92f84 49 = .ok (.invokestatic 79, 3) := by decide +kernel
theorem dJx4a65c_grow_92f84_52 : decode cJx4a65c_grow_92f84 52 = .ok (.anewarray 7, 3) := by decide +kernel
theorem dJx4a65c_grow_92f84_55 : decode cJx4a65c_grow_92f84 55 = .ok (.dup_x1, 1) := by decide +kernel
theorem dJx4a65c_grow_92f84_56 : decode cJx4a65c_grow_92f84 56 = .ok (.putfield 9, 3) := by decide +kernel
theorem dJx4a65c_grow_92f84_59 : decode cJx4a65c_grow_92f84 59 = .ok (.areturn, 1) := by decide +kernel
theorem dJx4a65c_grow_d5877_0 : decode cJx4a65c_grow_d5877 0 = .ok (.aload_n 0, 1) := by decide +kernel
theorem dJx4a65c_grow_d5877_1 : decode cJx4a65c_grow_d5877 1 = .ok (.aload_n 0, 1) := by decide +kernel
theorem dJx4a65c_grow_d5877_2 : decode cJx4a65c_grow_d5877 2 = .ok (.getfield 48, 3) := by decide +kernel
theorem dJx4a65c_grow_d5877_5 : decode cJx4a65c_grow_d5877 5 = .ok (.iconst 1, 1) := by decide +kernel
theorem dJx4a65c_grow_d5877_6 : decode cJx4a65c_grow_d5877 6 = .ok (.iadd, 1) := by decide +kernel
theorem dJx4a65c_grow_d5877_7 : decode cJx4a65c_grow_d5877 7 = .ok (.invokevirtual 69, 3) := by decide +kernel
theorem dJx4a65c_grow_d5877_10 : decode cJx4a65c_grow_d5877 10 = .ok (.areturn, 1) := by decide +kernel
theorem dJx4a65c_size_8abf5_0 : decode cJx4a65c_size_8abf5 0 = .ok (.aload_n 0, 1) := by decide +kernel
theorem dJx4a65c_size_8abf5_1 : decode cJx4a65c_size_8abf5 1 = .ok (.getfield 48, 3) := by decide +kernel
theorem dJx4a65c_size_8abf5_4 : decode cJx4a65c_size_8abf5 4 = .ok (.ireturn, 1) := by decide +kernel
theorem dJx4a65c_isEmpty_aae02_0 : decode cJx4a65c_isEmpty_aae02 0 = .ok (.aload_n 0, 1) := by decide +kernel
theorem dJx4a65c_isEmpty_aae02_1 : decode cJx4a65c_isEmpty_aae02 1 = .ok (.getfield 48, 3) := by decide +kernel
theorem dJx4a65c_isEmpty_aae02_4 : decode cJx4a65c_isEmpty_aae02 4 = .ok (.ifCond .ne 7, 3) := by decide +kernel
theorem dJx4a65c_isEmpty_aae02_7 : decode cJx4a65c_isEmpty_aae02 7 = .ok (.iconst 1, 1) := by decide +kernel
theorem dJx4a65c_isEmpty_aae02_8 : decode cJx4a65c_isEmpty_aae02 8 = .ok (.goto 4, 3) := by decide +kernel
theorem dJx4a65c_isEmpty_aae02_11 : decode cJx4a65c_isEmpty_aae02 11 = .ok (.iconst 0, 1) := by decide +kernel
theorem dJx4a65c_isEmpty_aae02_12 : decode cJx4a65c_isEmpty_aae02 12 = .ok (.ireturn, 1) := by decide +kernel
theorem dJx4a65c_toArray_d5877_0 : decode cJx4a65c_toArray_d5877 0 = .ok (.aload_n 0, 1) := by decide +kernel
theorem dJx4a65c_toArray_d5877_1 : decode cJx4a65c_toArray_d5877 1 = .ok (.getfield 9, 3) := by decide +kernel
theorem dJx4a65c_toArray_d5877_4 : decode cJx4a65c_toArray_d5877 4 = .ok (.aload_n 0, 1) := by decide +kernel
theorem dJx4a65c_toArray_d5877_5 : decode cJx4a65c_toArray_d5877 5 = .ok (.getfield 48, 3) := by decide +kernel
theorem dJx4a65c_toArray_d5877_8 : decode cJx4a65c_toArray_d5877 8 = .ok (.invokestatic 66, 3) := by decide +kernel
theorem dJx4a65c_toArray_d5877_11 : decode cJx4a65c_toArray_d5877 11 = .ok (.areturn, 1) := by decide +kernel
theorem dJx4a65c_elementData_915e3_0 : decode cJx4a65c_elementData_915e3 0 = .ok (.aload_n 0, 1) := by decide +kernel
theorem dJx4a65c_elementData_915e3_1 : decode cJx4a65c_elementData_915e3 1 = .ok (.getfield 9, 3) := by decide +kernel
theorem dJx4a65c_elementData_915e3_4 : decode cJx4a65c_elementData_915e3 4 = .ok (.iload_n 1, 1) := by decide +kernel
theorem dJx4a65c_elementData_915e3_5 : decode cJx4a65c_elementData_915e3 5 = .ok (.aaload, 1) := by decide +kernel
theorem dJx4a65c_elementData_915e3_6 : decode cJx4a65c_elementData_915e3 6 = .ok (.areturn, 1) := by decide +kernel
theorem dJx4a65c_get_915e3_0 : decode cJx4a65c_get_915e3 0 = .ok (.iload_n 1, 1) := by decide +kernel
theorem dJx4a65c_get_915e3_1 : decode cJx4a65c_get_915e3 1 = .ok (.aload_n 0, 1) := by decide +kernel
theorem dJx4a65c_get_915e3_2 : decode cJx4a65c_get_915e3 2 = .ok (.getfield 48, 3) := by decide +kernel
theorem dJx4a65c_get_915e3_5 : decode cJx4a65c_get_915e3 5 = .ok (.invokestatic 118, 3) := by decide +kernel
theorem dJx4a65c_get_915e3_8 : decode cJx4a65c_get_915e3 8 = .ok (.pop, 1) := by decide +kernel
theorem dJx4a65c_get_915e3_9 : decode cJx4a65c_get_915e3 9 = .ok (.aload_n 0, 1) := by decide +kernel
theorem dJx4a65c_get_915e3_10 : decode cJx4a65c_get_915e3 10 = .ok (.iload_n 1, 1) := by decide +kernel
theorem dJx4a65c_get_915e3_11 : decode cJx4a65c_get_915e3 11 = .ok (.invokevirtual 123, 3) := by decide +kernel
theorem dJx4a65c_get_915e3_14 : decode cJx4a65c_get_915e3 14 = .ok (.areturn, 1) := by decide +kernel
theorem dJx4a65c_add_72be8_0 : decode cJx4a65c_add_72be8 0 = .ok (.iload_n 3, 1) := by decide +kernel
theorem dJx4a65c_add_72be8_1 : decode cJx4a65c_add_72be8 1 = .ok (.aload_n 2, 1) := by decide +kernel
theorem dJx4a65c_add_72be8_2 : decode cJx4a65c_add_72be8 2 = .ok (.arraylength, 1) := by decide +kernel
theorem dJx4a65c_add_72be8_3 : decode cJx4a65c_add_72be8 3 = .ok (.if_icmp .ne 8, 3) := by decide +kernel
theorem dJx4a65c_add_72be8_6 : decode cJx4a65c_add_72be8 6 = .ok (.aload_n 0, 1) := by decide +kernel
theorem dJx4a65c_add_72be8_7 : decode cJx4a65c_add_72be8 7 = .ok (.invokevirtual 129, 3) := by decide +kernel
theorem dJx4a65c_add_72be8_10 : decode cJx4a65c_add_72be8 10 = .ok (.astore_n 2, 1) := by decide +kernel
theorem dJx4a65c_add_72be8_11 : decode cJx4a65c_add_72be8 11 = .ok (.aload_n 2, 1) := by decide +kernel
theorem dJx4a65c_add_72be8_12 : decode cJx4a65c_add_72be8 12 = .ok (.iload_n 3, 1) := by decide +kernel
theorem dJx4a65c_add_72be8_13 : decode cJx4a65c_add_72be8 13 = .ok (.aload_n 1, 1) := by decide +kernel
theorem dJx4a65c_add_72be8_14 : decode cJx4a65c_add_72be8 14 = .ok (.aastore, 1) := by decide +kernel
theorem dJx4a65c_add_72be8_15 : decode cJx4a65c_add_72be8 15 = .ok (.aload_n 0, 1) := by decide +kernel
theorem dJx4a65c_add_72be8_16 : decode cJx4a65c_add_72be8 16 = .ok (.iload_n 3, 1) := by decide +kernel
theorem dJx4a65c_add_72be8_17 : decode cJx4a65c_add_72be8 17 = .ok (.iconst 1, 1) := by decide +kernel
theorem dJx4a65c_add_72be8_18 : decode cJx4a65c_add_72be8 18 = .ok (.iadd, 1) := by decide +kernel
theorem dJx4a65c_add_72be8_19 : decode cJx4a65c_add_72be8 19 = .ok (.putfield 48, 3) := by decide +kernel
theorem dJx4a65c_add_72be8_22 : decode cJx4a65c_add_72be8 22 = .ok (.return_, 1) := by decide +kernel
theorem dJx4a65c_add_9ea2d_0 : decode cJx4a65c_add_9ea2d 0 = .ok (.aload_n 0, 1) := by decide +kernel
theorem dJx4a65c_add_9ea2d_1 : decode cJx4a65c_add_9ea2d 1 = .ok (.dup, 1) := by decide +kernel
theorem dJx4a65c_add_9ea2d_2 : decode cJx4a65c_add_9ea2d 2 = .ok (.getfield 63, 3) := by decide +kernel
theorem dJx4a65c_add_9ea2d_5 : decode cJx4a65c_add_9ea2d 5 = .ok (.iconst 1, 1) := by decide +kernel
theorem dJx4a65c_add_9ea2d_6 : decode cJx4a65c_add_9ea2d 6 = .ok (.iadd, 1) := by decide +kernel
theorem dJx4a65c_add_9ea2d_7 : decode cJx4a65c_add_9ea2d 7 = .ok (.putfield 63, 3) := by decide +kernel
theorem dJx4a65c_add_9ea2d_10 : decode cJx4a65c_add_9ea2d 10 = .ok (.aload_n 0, 1) := by decide +kernel
theorem dJx4a65c_add_9ea2d_11 : decode cJx4a65c_add_9ea2d 11 = .ok (.aload_n 1, 1) := by decide +kernel
theorem dJx4a65c_add_9ea2d_12 : decode cJx4a65c_add_9ea2d 12 = .ok (.aload_n 0, 1) := by decide +kernel
theorem dJx4a65c_add_9ea2d_13 : decode cJx4a65c_add_9ea2d 13 = .ok (.getfield 9, 3) := by decide +kernel
theorem dJx4a65c_add_9ea2d_16 : decode cJx4a65c_add_9ea2d 16 = .ok (.aload_n 0, 1) := by decide +kernel
theorem dJx4a65c_add_9ea2d_17 : decode cJx4a65c_add_9ea2d 17 = .ok (.getfield 48, 3) := by decide +kernel
theorem dJx4a65c_add_9ea2d_20 : decode cJx4a65c_add_9ea2d 20 = .ok (.invokevirtual 131, 3) := by decide +kernel
theorem dJx4a65c_add_9ea2d_23 : decode cJx4a65c_add_9ea2d 23 = .ok (.iconst 1, 1) := by decide +kernel
theorem dJx4a65c_add_9ea2d_24 : decode cJx4a65c_add_9ea2d 24 = .ok (.ireturn, 1) := by decide +kernel
theorem dJx4a65c_clear_da8c8_0 : decode cJx4a65c_clear_da8c8 0 = .ok (.aload_n 0, 1) := by decide +kernel
theorem dJx4a65c_clear_da8c8_1 : decode cJx4a65c_clear_da8c8 1 = .ok (.dup, 1) := by decide +kernel
theorem dJx4a65c_clear_da8c8_2 : decode cJx4a65c_clear_da8c8 2 = .ok (.getfield 63, 3) := by decide +kernel
theorem dJx4a65c_clear_da8c8_5 : decode cJx4a65c_clear_da8c8 5 = .ok (.iconst 1, 1) := by decide +kernel
theorem dJx4a65c_clear_da8c8_6 : decode cJx4a65c_clear_da8c8 6 = .ok (.iadd, 1) := by decide +kernel
theorem dJx4a65c_clear_da8c8_7 : decode cJx4a65c_clear_da8c8 7 = .ok (.putfield 63, 3) := by decide +kernel
theorem dJx4a65c_clear_da8c8_10 : decode cJx4a65c_clear_da8c8 10 = .ok (.aload_n 0, 1) := by decide +kernel
theorem dJx4a65c_clear_da8c8_11 : decode cJx4a65c_clear_da8c8 11 = .ok (.getfield 9, 3) := by decide +kernel
theorem dJx4a65c_clear_da8c8_14 : decode cJx4a65c_clear_da8c8 14 = .ok (.astore_n 1, 1) := by decide +kernel
theorem dJx4a65c_clear_da8c8_15 : decode cJx4a65c_clear_da8c8 15 = .ok (.aload_n 0, 1) := by decide +kernel
theorem dJx4a65c_clear_da8c8_16 : decode cJx4a65c_clear_da8c8 16 = .ok (.getfield 48, 3) := by decide +kernel
theorem dJx4a65c_clear_da8c8_19 : decode cJx4a65c_clear_da8c8 19 = .ok (.istore_n 2, 1) := by decide +kernel
theorem dJx4a65c_clear_da8c8_20 : decode cJx4a65c_clear_da8c8 20 = .ok (.aload_n 0, 1) := by decide +kernel
theorem dJx4a65c_clear_da8c8_21 : decode cJx4a65c_clear_da8c8 21 = .ok (.iconst 0, 1) := by decide +kernel
theorem dJx4a65c_clear_da8c8_22 : decode cJx4a65c_clear_da8c8 22 = .ok (.dup_x1, 1) := by decide +kernel
theorem dJx4a65c_clear_da8c8_23 : decode cJx4a65c_clear_da8c8 23 = .ok (.putfield 48, 3) := by decide +kernel
theorem dJx4a65c_clear_da8c8_26 : decode cJx4a65c_clear_da8c8 26 = .ok (.istore_n 3, 1) := by decide +kernel
theorem dJx4a65c_clear_da8c8_27 : decode cJx4a65c_clear_da8c8 27 = .ok (.iload_n 3, 1) := by decide +kernel
theorem dJx4a65c_clear_da8c8_28 : decode cJx4a65c_clear_da8c8 28 = .ok (.iload_n 2, 1) := by decide +kernel
theorem dJx4a65c_clear_da8c8_29 : decode cJx4a65c_clear_da8c8 29 = .ok (.if_icmp .ge 13, 3) := by decide +kernel
theorem dJx4a65c_clear_da8c8_32 : decode cJx4a65c_clear_da8c8 32 = .ok (.aload_n 1, 1) := by decide +kernel
theorem dJx4a65c_clear_da8c8_33 : decode cJx4a65c_clear_da8c8 33 = .ok (.iload_n 3, 1) := by decide +kernel
theorem dJx4a65c_clear_da8c8_34 : decode cJx4a65c_clear_da8c8 34 = .ok (.aconst_null, 1) := by decide +kernel
theorem dJx4a65c_clear_da8c8_35 : decode cJx4a65c_clear_da8c8 35 = .ok (.aastore, 1) := by decide +kernel
theorem dJx4a65c_clear_da8c8_36 : decode cJx4a65c_clear_da8c8 36 = .ok (.iinc 3 1, 3) := by decide +kernel
theorem dJx4a65c_clear_da8c8_39 : decode cJx4a65c_clear_da8c8 39 = .ok (.goto (-12), 3) := by decide +kernel
theorem dJx4a65c_clear_da8c8_42 : decode cJx4a65c_clear_da8c8 42 = .ok (.return_, 1) := by decide +kernel
theorem dJx4a65c_addAll_f0b43_0 : decode cJx4a65c_addAll_f0b43 0 = .ok (.aload_n 1, 1) := by decide +kernel
theorem dJx4a65c_addAll_f0b43_1 : decode cJx4a65c_addAll_f0b43 1 = .ok (.invokeinterface 42 1, 5) := by decide +kernel
theorem dJx4a65c_addAll_f0b43_6 : decode cJx4a65c_addAll_f0b43 6 = .ok (.astore_n 2, 1) := by decide +kernel
theorem dJx4a65c_addAll_f0b43_7 : decode cJx4a65c_addAll_f0b43 7 = .ok (.aload_n 0, 1) := by decide +kernel
theorem dJx4a65c_addAll_f0b43_8 : decode cJx4a65c_addAll_f0b43 8 = .ok (.dup, 1) := by decide +kernel
theorem dJx4a65c_addAll_f0b43_9 : decode cJx4a65c_addAll_f0b43 9 = .ok (.getfield 63, 3) := by decide +kernel
theorem dJx4a65c_addAll_f0b43_12 : decode cJx4a65c_addAll_f0b43 12 = .ok (.iconst 1, 1) := by decide +kernel
theorem dJx4a65c_addAll_f0b43_13 : decode cJx4a65c_addAll_f0b43 13 = .ok (.iadd, 1) := by decide +kernel
theorem dJx4a65c_addAll_f0b43_14 : decode cJx4a65c_addAll_f0b43 14 = .ok (.putfield 63, 3) := by decide +kernel
theorem dJx4a65c_addAll_f0b43_17 : decode cJx4a65c_addAll_f0b43 17 = .ok (.aload_n 2, 1) := by decide +kernel
theorem dJx4a65c_addAll_f0b43_18 : decode cJx4a65c_addAll_f0b43 18 = .ok (.arraylength, 1) := by decide +kernel
theorem dJx4a65c_addAll_f0b43_19 : decode cJx4a65c_addAll_f0b43 19 = .ok (.istore_n 3, 1) := by decide +kernel
theorem dJx4a65c_addAll_f0b43_20 : decode cJx4a65c_addAll_f0b43 20 = .ok (.iload_n 3, 1) := by decide +kernel
theorem dJx4a65c_addAll_f0b43_21 : decode cJx4a65c_addAll_f0b43 21 = .ok (.ifCond .ne 5, 3) := by decide +kernel
theorem dJx4a65c_addAll_f0b43_24 : decode cJx4a65c_addAll_f0b43 24 = .ok (.iconst 0, 1) := by decide +kernel
theorem dJx4a65c_addAll_f0b43_25 : decode cJx4a65c_addAll_f0b43 25 = .ok (.ireturn, 1) := by decide +kernel
theorem dJx4a65c_addAll_f0b43_26 : decode cJx4a65c_addAll_f0b43 26 = .ok (.iload_n 3, 1) := by decide +kernel
theorem dJx4a65c_addAll_f0b43_27 : decode cJx4a65c_addAll_f0b43 27 = .ok (.aload_n 0, 1) := by decide +kernel
theorem dJx4a65c_addAll_f0b43_28 : decode cJx4a65c_addAll_f0b43 28 = .ok (.getfield 9, 3) := by decide +kernel
theorem dJx4a65c_addAll_f0b43_31 : decode cJx4a65c_addAll_f0b43 31 = .ok (.dup, 1) := by decide +kernel
theorem dJx4a65c_addAll_f0b43_32 : decode cJx4a65c_addAll_f0b43 32 = .ok (.astore 4, 2) := by decide +kernel
theorem dJx4a65c_addAll_f0b43_34 : decode cJx4a65c_addAll_f0b43 34 = .ok (.arraylength, 1) := by decide +kernel
theorem dJx4a65c_addAll_f0b43_35 : decode cJx4a65c_addAll_f0b43 35 = .ok (.aload_n 0, 1) := by decide +kernel
theorem dJx4a65c_addAll_f0b43_36 : decode cJx4a65c_addAll_f0b43 36 = .ok (.getfield 48, 3) := by decide +kernel
theorem dJx4a65c_addAll_f0b43_39 : decode cJx4a65c_addAll_f0b43 39 = .ok (.dup, 1) := by decide +kernel
theorem dJx4a65c_addAll_f0b43_40 : decode cJx4a65c_addAll_f0b43 40 = .ok (.istore 5, 2) := by decide +kernel
theorem dJx4a65c_addAll_f0b43_42 : decode cJx4a65c_addAll_f0b43 42 = .ok (.isub, 1) := by decide +kernel
theorem dJx4a65c_addAll_f0b43_43 : decode cJx4a65c_addAll_f0b43 43 = .ok (.if_icmp .le 13, 3) := by decide +kernel
theorem dJx4a65c_addAll_f0b43_46 : decode cJx4a65c_addAll_f0b43 46 = .ok (.aload_n 0, 1) := by decide +kernel
theorem dJx4a65c_addAll_f0b43_47 : decode cJx4a65c_addAll_f0b43 47 = .ok (.iload 5, 2) := by decide +kernel
theorem dJx4a65c_addAll_f0b43_49 : decode cJx4a65c_addAll_f0b43 49 = .ok (.iload_n 3, 1) := by decide +kernel
theorem dJx4a65c_addAll_f0b43_50 : decode cJx4a65c_addAll_f0b43 50 = .ok (.iadd, 1) := by decide +kernel
theorem dJx4a65c_addAll_f0b43_51 : decode cJx4a65c_addAll_f0b43 51 = .ok (.invokevirtual 69, 3) := by decide +kernel
theorem dJx4a65c_addAll_f0b43_54 : decode cJx4a65c_addAll_f0b43 54 = .ok (.astore 4, 2) := by decide +kernel
theorem dJx4a65c_addAll_f0b43_56 : decode cJx4a65c_addAll_f0b43 56 = .ok (.aload_n 2, 1) := by decide +kernel
theorem dJx4a65c_addAll_f0b43_57 : decode cJx4a65c_addAll_f0b43 57 = .ok (.iconst 0, 1) := by decide +kernel
theorem dJx4a65c_addAll_f0b43_58 : decode cJx4a65c_addAll_f0b43 58 = .ok (.aload 4, 2) := by decide +kernel
theorem dJx4a65c_addAll_f0b43_60 : decode cJx4a65c_addAll_f0b43 60 = .ok (.iload 5, 2) := by decide +kernel
theorem dJx4a65c_addAll_f0b43_62 : decode cJx4a65c_addAll_f0b43 62 = .ok (.iload_n 3, 1) := by decide +kernel
theorem dJx4a65c_addAll_f0b43_63 : decode cJx4a65c_addAll_f0b43 63 = .ok (.invokestatic 112, 3) := by decide +kernel
theorem dJx4a65c_addAll_f0b43_66 : decode cJx4a65c_addAll_f0b43 66 = .ok (.aload_n 0, 1) := by decide +kernel
theorem dJx4a65c_addAll_f0b43_67 : decode cJx4a65c_addAll_f0b43 67 = .ok (.iload 5, 2) := by decide +kernel
theorem dJx4a65c_addAll_f0b43_69 : decode cJx4a65c_addAll_f0b43 69 = .ok (.iload_n 3, 1) := by decide +kernel
theorem dJx4a65c_addAll_f0b43_70 : decode cJx4a65c_addAll_f0b43 70 = .ok (.iadd, 1) := by decide +kernel
theorem dJx4a65c_addAll_f0b43_71 : decode cJx4a65c_addAll_f0b43 71 = .ok (.putfield 48, 3) := by decide +kernel
theorem dJx4a65c_addAll_f0b43_74 : decode cJx4a65c_addAll_f0b43 74 = .ok (.iconst 1, 1) := by decide +kernel
theorem dJx4a65c_addAll_f0b43_75 : decode cJx4a65c_addAll_f0b43 75 = .ok (.ireturn, 1) := by decide +kernel
theorem dJx4a65c_iterator_32c93_0 : decode cJx4a65c_iterator_32c93 0 = .ok (.new 267, 3) := by decide +kernel
theorem dJx4a65c_iterator_32c93_3 : decode cJx4a65c_iterator_32c93 3 = .ok (.dup, 1) := by decide +kernel
theorem dJx4a65c_iterator_32c93_4 : decode cJx4a65c_iterator_32c93 4 = .ok (.aload_n 0, 1) := by decide +kernel
theorem dJx4a65c_iterator_32c93_5 : decode cJx4a65c_iterator_32c93 5 = .ok (.invokespecial 269, 3) := by decide +kernel
theorem dJx4a65c_iterator_32c93_8 : decode cJx4a65c_iterator_32c93 8 = .ok (.areturn, 1) := by decide +kernel
theorem dJ7_copyOf_1904c_0 : decode cJ7_copyOf_1904c 0 = .ok (.aload_n 0, 1) := by decide +kernel
theorem dJ7_copyOf_1904c_1 : decode cJ7_copyOf_1904c 1 = .ok (.iload_n 1, 1) := by decide +kernel
theorem dJ7_copyOf_1904c_2 : decode cJ7_copyOf_1904c 2 = .ok (.aload_n 0, 1) := by decide +kernel
theorem dJ7_copyOf_1904c_3 : decode cJ7_copyOf_1904c 3 = .ok (.invokevirtual 86, 3) := by decide +kernel
theorem dJ7_copyOf_1904c_6 : decode cJ7_copyOf_1904c 6 = .ok (.invokestatic 300, 3) := by decide +kernel
theorem dJ7_copyOf_1904c_9 : decode cJ7_copyOf_1904c 9 = .ok (.areturn, 1) := by decide +kernel
theorem dJ7_copyOf_6403c_0 : decode cJ7_copyOf_6403c 0 = .ok (.aload_n 2, 1) := by decide +kernel
theorem dJ7_copyOf_6403c_1 : decode cJ7_copyOf_6403c 1 = .ok (.ldc 110, 2) := by decide +kernel
theorem dJ7_copyOf_6403c_3 : decode cJ7_copyOf_6403c 3 = .ok (.if_acmp .ne 10, 3) := by decide +kernel
theorem dJ7_copyOf_6403c_6 : decode cJ7_copyOf_6403c 6 = .ok (.iload_n 1, 1) := by decide +kernel
theorem dJ7_copyOf_6403c_7 : decode cJ7_copyOf_6403c 7 = .ok (.anewarray 2, 3) := by decide +kernel
theorem dJ7_copyOf_6403c_10 : decode cJ7_copyOf_6403c 10 = .ok (.goto 14, 3) := by decide +kernel
theorem dJ7_copyOf_6403c_13 : decode cJ7_copyOf_6403c 13 = .ok (.aload_n 2, 1) := by decide +kernel
theorem dJ7_copyOf_6403c_14 : decode cJ7_copyOf_6403c 14 = .ok (.invokevirtual 90, 3) := by decide +kernel
theorem dJ7_copyOf_6403c_17 : decode cJ7_copyOf_6403c 17 = .ok (.iload_n 1, 1) := by decide +kernel
theorem dJ7_copyOf_6403c_18 : decode cJ7_copyOf_6403c 18 = .ok (.invokestatic 95, 3) := by decide +kernel
theorem dJ7_copyOf_6403c_21 : decode cJ7_copyOf_6403c 21 = .ok (.checkcast 110, 3) := by decide +kernel
theorem dJ7_copyOf_6403c_24 : decode cJ7_copyOf_6403c 24 = .ok (.astore_n 3, 1) := by decide +kernel
theorem dJ7_copyOf_6403c_25 : decode cJ7_copyOf_6403c 25 = .ok (.aload_n 0, 1) := by decide +kernel
theorem dJ7_copyOf_6403c_26 : decode cJ7_copyOf_6403c 26 = .ok (.iconst 0, 1) := by decide +kernel
theorem dJ7_copyOf_6403c_27 : decode cJ7_copyOf_6403c 27 = .ok (.aload_n 3, 1) := by decide +kernel
theorem dJ7_copyOf_6403c_28 : decode cJ7_copyOf_6403c 28 = .ok (.iconst 0, 1) := by decide +kernel
theorem dJ7_copyOf_6403c_29 : decode cJ7_copyOf_6403c 29 = .ok (.aload_n 0, 1) := by decide +kernel
theorem dJ7_copyOf_6403c_30 : decode cJ7_copyOf_6403c 30 = .ok (.arraylength, 1) := by decide +kernel
theorem dJ7_copyOf_6403c_31 : decode cJ7_copyOf_6403c 31 = .ok (.iload_n 1, 1) := by decide +kernel
theorem dJ7_copyOf_6403c_32 : decode cJ7_copyOf_6403c 32 = .ok (.invokestatic 304, 3) := by decide +kernel
theorem dJ7_copyOf_6403c_35 : decode cJ7_copyOf_6403c 35 = .ok (.invokestatic 150, 3) := by decide +kernel
theorem dJ7_copyOf_6403c_38 : decode cJ7_copyOf_6403c 38 = .ok (.aload_n 3, 1) := by decide +kernel
theorem dJ7_copyOf_6403c_39 : decode cJ7_copyOf_6403c 39 = .ok (.areturn, 1) := by decide +kernel
theorem dJ15_checkIndex_7cf53_0 : decode cJ15_checkIndex_7cf53 0 = .ok (.iload_n 0, 1) := by decide +kernel
theorem dJ15_checkIndex_7cf53_1 : decode cJ15_checkIndex_7cf53 1 = .ok (.iload_n 1, 1) := by decide +kernel
theorem dJ15_checkIndex_7cf53_2 : decode cJ15_checkIndex_7cf53 2 = .ok (.aconst_null, 1) := by decide +kernel
theorem dJ15_checkIndex_7cf53_3 : decode cJ15_checkIndex_7cf53 3 = .ok (.invokestatic 105, 3) := by decide +kernel
theorem dJ15_checkIndex_7cf53_6 : decode cJ15_checkIndex_7cf53 6 = .ok (.ireturn, 1) := by decide +kernel
theorem dJ8_newLength_cabcc_0 : decode cJ8_newLength_cabcc 0 = .ok (.iload_n 0, 1) := by decide +kernel
theorem dJ8_newLength_cabcc_1 : decode cJ8_newLength_cabcc 1 = .ok (.iload_n 1, 1) := by decide +kernel
theorem dJ8_newLength_cabcc_2 : decode cJ8_newLength_cabcc 2 = .ok (.iload_n 2, 1) := by decide +kernel
theorem dJ8_newLength_cabcc_3 : decode cJ8_newLength_cabcc 3 = .ok (.invokestatic 194, 3) := by decide +kernel
theorem dJ8_newLength_cabcc_6 : decode cJ8_newLength_cabcc 6 = .ok (.iadd, 1) := by decide +kernel
theorem dJ8_newLength_cabcc_7 : decode cJ8_newLength_cabcc 7 = .ok (.istore_n 3, 1) := by decide +kernel
theorem dJ8_newLength_cabcc_8 : decode cJ8_newLength_cabcc 8 = .ok (.iconst 0, 1) := by decide +kernel
theorem dJ8_newLength_cabcc_9 : decode cJ8_newLength_cabcc 9 = .ok (.iload_n 3, 1) := by decide +kernel
theorem dJ8_newLength_cabcc_10 : decode cJ8_newLength_cabcc 10 = .ok (.if_icmp .ge 11, 3) := by decide +kernel
theorem dJ8_newLength_cabcc_13 : decode cJ8_newLength_cabcc 13 = .ok (.iload_n 3, 1) := by decide +kernel
theorem dJ8_newLength_cabcc_14 : decode cJ8_newLength_cabcc 14 = .ok (.ldc 200, 2) := by decide +kernel
theorem dJ8_newLength_cabcc_16 : decode cJ8_newLength_cabcc 16 = .ok (.if_icmp .gt 5, 3) := by decide +kernel
theorem dJ8_newLength_cabcc_19 : decode cJ8_newLength_cabcc 19 = .ok (.iload_n 3, 1) := by decide +kernel
theorem dJ8_newLength_cabcc_20 : decode cJ8_newLength_cabcc 20 = .ok (.ireturn, 1) := by decide +kernel
theorem dJ8_newLength_cabcc_21 : decode cJ8_newLength_cabcc 21 = .ok (.iload_n 0, 1) := by decide +kernel
theorem dJ8_newLength_cabcc_22 : decode cJ8_newLength_cabcc 22 = .ok (.iload_n 1, 1) := by decide +kernel
theorem dJ8_newLength_cabcc_23 : decode cJ8_newLength_cabcc 23 = .ok (.invokestatic 201, 3) := by decide +kernel
theorem dJ8_newLength_cabcc_26 : decode cJ8_newLength_cabcc 26 = .ok (.ireturn, 1) := by decide +kernel
theorem dJ8_hugeLength_7cf53_0 : decode cJ8_hugeLength_7cf53 0 = .ok (.iload_n 0, 1) := by decide +kernel
theorem dJ8_hugeLength_7cf53_1 : decode cJ8_hugeLength_7cf53 1 = .ok (.iload_n 1, 1) := by decide +kernel
theorem dJ8_hugeLength_7cf53_2 : decode cJ8_hugeLength_7cf53 2 = .ok (.iadd, 1) := by decide +kernel
theorem dJ8_hugeLength_7cf53_3 : decode cJ8_hugeLength_7cf53 3 = .ok (.istore_n 2, 1) := by decide +kernel
theorem dJ8_hugeLength_7cf53_4 : decode cJ8_hugeLength_7cf53 4 = .ok (.iload_n 2, 1) := by decide +kernel
theorem dJ8_hugeLength_7cf53_5 : decode cJ8_hugeLength_7cf53 5 = .ok (.ifCond .ge 44, 3) := by decide +kernel
theorem dJ8_hugeLength_7cf53_8 : decode cJ8_hugeLength_7cf53 8 = .ok (.new 204, 3) := by decide +kernel
theorem dJ8_hugeLength_7cf53_11 : decode cJ8_hugeLength_7cf53 11 = .ok (.dup, 1) := by decide +kernel
theorem dJ8_hugeLength_7cf53_12 : decode cJ8_hugeLength_7cf53 12 = .ok (.new 89, 3) := by decide +kernel
theorem dJ8_hugeLength_7cf53_15 : decode cJ8_hugeLength_7cf53 15 = .ok (.dup, 1) := by decide +kernel
theorem dJ8_hugeLength_7cf53_16 : decode cJ8_hugeLength_7cf53 16 = .ok (.invokespecial 91, 3) := by decide +kernel
theorem dJ8_hugeLength_7cf53_19 : decode cJ8_hugeLength_7cf53 19 = .ok (.ldc 206, 2) := by decide +kernel
theorem dJ8_hugeLength_7cf53_21 : decode cJ8_hugeLength_7cf53 21 = .ok (.invokevirtual 94, 3) := by decide +kernel
theorem dJ8_hugeLength_7cf53_24 : decode cJ8_hugeLength_7cf53 24 = .ok (.iload_n 0, 1) := by decide +kernel
theorem dJ8_hugeLength_7cf53_25 : decode cJ8_hugeLength_7cf53 25 = .ok (.invokevirtual 98, 3) := by decide +kernel
theorem dJ8_hugeLength_7cf53_28 : decode cJ8_hugeLength_7cf53 28 = .ok (.ldc 208, 2) := by decide +kernel
theorem dJ8_hugeLength_7cf53_30 : decode cJ8_hugeLength_7cf53 30 = .ok (.invokevirtual 94, 3) := by decide +kernel
theorem dJ8_hugeLength_7cf53_33 : decode cJ8_hugeLength_7cf53 33 = .ok (.iload_n 1, 1) := by decide +kernel
theorem dJ8_hugeLength_7cf53_34 : decode cJ8_hugeLength_7cf53 34 = .ok (.invokevirtual 98, 3) := by decide +kernel
theorem dJ8_hugeLength_7cf53_37 : decode cJ8_hugeLength_7cf53 37 = .ok (.ldc 210, 2) := by decide +kernel
theorem dJ8_hugeLength_7cf53_39 : decode cJ8_hugeLength_7cf53 39 = .ok (.invokevirtual 94, 3) := by decide +kernel
theorem dJ8_hugeLength_7cf53_42 : decode cJ8_hugeLength_7cf53 42 = .ok (.invokevirtual 101, 3) := by decide +kernel
theorem dJ8_hugeLength_7cf53_45 : decode cJ8_hugeLength_7cf53 45 = .ok (.invokespecial 212, 3) := by decide +kernel
theorem dJ8_hugeLength_7cf53_48 : decode cJ8_hugeLength_7cf53 48 = .ok (.athrow, 1) := by decide +kernel
theorem dJ8_hugeLength_7cf53_49 : decode cJ8_hugeLength_7cf53 49 = .ok (.iload_n 2, 1) := by decide +kernel
theorem dJ8_hugeLength_7cf53_50 : decode cJ8_hugeLength_7cf53 50 = .ok (.ldc 200, 2) := by decide +kernel
theorem dJ8_hugeLength_7cf53_52 : decode cJ8_hugeLength_7cf53 52 = .ok (.if_icmp .gt 6, 3) := by decide +kernel
theorem dJ8_hugeLength_7cf53_55 : decode cJ8_hugeLength_7cf53 55 = .ok (.ldc 200, 2) := by decide +kernel
theorem dJ8_hugeLength_7cf53_57 : decode cJ8_hugeLength_7cf53 57 = .ok (.ireturn, 1) := by decide +kernel
theorem dJ8_hugeLength_7cf53_58 : decode cJ8_hugeLength_7cf53 58 = .ok (.iload_n 2, 1) := by decide +kernel
theorem dJ8_hugeLength_7cf53_59 : decode cJ8_hugeLength_7cf53 59 = .ok (.ireturn, 1) := by decide +kernel
theorem dJ3_checkIndex_8e157_0 : decode cJ3_checkIndex_8e157 0 = .ok (.iload_n 0, 1) := by decide +kernel
theorem dJ3_checkIndex_8e157_1 : decode cJ3_checkIndex_8e157 1 = .ok (.ifCond .lt 8, 3) := by decide +kernel
theorem dJ3_checkIndex_8e157_4 : decode cJ3_checkIndex_8e157 4 = .ok (.iload_n 0, 1) := by decide +kernel
theorem dJ3_checkIndex_8e157_5 : decode cJ3_checkIndex_8e157 5 = .ok (.iload_n 1, 1) := by decide +kernel
theorem dJ3_checkIndex_8e157_6 : decode cJ3_checkIndex_8e157 6 = .ok (.if_icmp .lt 10, 3) := by decide +kernel
theorem dJ3_checkIndex_8e157_9 : decode cJ3_checkIndex_8e157 9 = .ok (.aload_n 2, 1) := by decide +kernel
theorem dJ3_checkIndex_8e157_10 : decode cJ3_checkIndex_8e157 10 = .ok (.iload_n 0, 1) := by decide +kernel
theorem dJ3_checkIndex_8e157_11 : decode cJ3_checkIndex_8e157 11 = .ok (.iload_n 1, 1) := by decide +kernel
theorem dJ3_checkIndex_8e157_12 : decode cJ3_checkIndex_8e157 12 = .ok (.invokestatic 95, 3) := by decide +kernel
theorem dJ3_checkIndex_8e157_15 : decode cJ3_checkIndex_8e157 15 = .ok (.athrow, 1) := by decide +kernel
theorem dJ3_checkIndex_8e157_16 : decode cJ3_checkIndex_8e157 16 = .ok (.iload_n 0, 1) := by decide +kernel
theorem dJ3_checkIndex_8e157_17 : decode cJ3_checkIndex_8e157 17 = .ok (.ireturn, 1) := by decide +kernel
theorem dL_clay_0 : decode cL_clay 0 = .ok (.aload_n 3, 1) := by decide +kernel
theorem dL_clay_1 : decode cL_clay 1 = .ok (.iconst 0, 1) := by decide +kernel
theorem dL_clay_2 : decode cL_clay 2 = .ok (.aload_n 0, 1) := by decide +kernel
theorem dL_clay_3 : decode cL_clay 3 = .ok (.iload_n 1, 1) := by decide +kernel
theorem dL_clay_4 : decode cL_clay 4 = .ok (.iload_n 2, 1) := by decide +kernel
theorem dL_clay_5 : decode cL_clay 5 = .ok (.invokevirtual 7, 3) := by decide +kernel
theorem dL_clay_8 : decode cL_clay 8 = .ok (.i2l, 1) := by decide +kernel
theorem dL_clay_9 : decode cL_clay 9 = .ok (.lastore, 1) := by decide +kernel
theorem dL_clay_10 : decode cL_clay 10 = .ok (.goto 11, 3) := by decide +kernel
theorem dL_clay_13 : decode cL_clay 13 = .ok (.astore 4, 2) := by decide +kernel
theorem dL_clay_15 : decode cL_clay 15 = .ok (.iconst 1, 1) := by decide +kernel
theorem dL_clay_16 : decode cL_clay 16 = .ok (.ireturn, 1) := by decide +kernel
theorem dL_clay_17 : decode cL_clay 17 = .ok (.astore 4, 2) := by decide +kernel
theorem dL_clay_19 : decode cL_clay 19 = .ok (.iconst 2, 1) := by decide +kernel
theorem dL_clay_20 : decode cL_clay 20 = .ok (.ireturn, 1) := by decide +kernel
theorem dL_clay_21 : decode cL_clay 21 = .ok (.iconst 0, 1) := by decide +kernel
theorem dL_clay_22 : decode cL_clay 22 = .ok (.ireturn, 1) := by decide +kernel
theorem dL_glaze_0 : decode cL_glaze 0 = .ok (.aload 6, 2) := by decide +kernel
theorem dL_glaze_2 : decode cL_glaze 2 = .ok (.iconst 0, 1) := by decide +kernel
theorem dL_glaze_3 : decode cL_glaze 3 = .ok (.aload_n 0, 1) := by decide +kernel
theorem dL_glaze_4 : decode cL_glaze 4 = .ok (.iload_n 1, 1) := by decide +kernel
theorem dL_glaze_5 : decode cL_glaze 5 = .ok (.iload_n 2, 1) := by decide +kernel
theorem dL_glaze_6 : decode cL_glaze 6 = .ok (.iload_n 3, 1) := by decide +kernel
theorem dL_glaze_7 : decode cL_glaze 7 = .ok (.iload 4, 2) := by decide +kernel
theorem dL_glaze_9 : decode cL_glaze 9 = .ok (.iload 5, 2) := by decide +kernel
theorem dL_glaze_11 : decode cL_glaze 11 = .ok (.invokevirtual 17, 3) := by decide +kernel
theorem dL_glaze_14 : decode cL_glaze 14 = .ok (.i2l, 1) := by decide +kernel
theorem dL_glaze_15 : decode cL_glaze 15 = .ok (.lastore, 1) := by decide +kernel
theorem dL_glaze_16 : decode cL_glaze 16 = .ok (.goto 11, 3) := by decide +kernel
theorem dL_glaze_19 : decode cL_glaze 19 = .ok (.astore 7, 2) := by decide +kernel
theorem dL_glaze_21 : decode cL_glaze 21 = .ok (.iconst 1, 1) := by decide +kernel
theorem dL_glaze_22 : decode cL_glaze 22 = .ok (.ireturn, 1) := by decide +kernel
theorem dL_glaze_23 : decode cL_glaze 23 = .ok (.astore 7, 2) := by decide +kernel
theorem dL_glaze_25 : decode cL_glaze 25 = .ok (.iconst 2, 1) := by decide +kernel
theorem dL_glaze_26 : decode cL_glaze 26 = .ok (.ireturn, 1) := by decide +kernel
theorem dL_glaze_27 : decode cL_glaze 27 = .ok (.iconst 0, 1) := by decide +kernel
theorem dL_glaze_28 : decode cL_glaze 28 = .ok (.ireturn, 1) := by decide +kernel
theorem dL_pot_0 : decode cL_pot 0 = .ok (.aload 5, 2) := by decide +kernel
theorem dL_pot_2 : decode cL_pot 2 = .ok (.iconst 0, 1) := by decide +kernel
theorem dL_pot_3 : decode cL_pot 3 = .ok (.aload_n 0, 1) := by decide +kernel
theorem dL_pot_4 : decode cL_pot 4 = .ok (.iload_n 1, 1) := by decide +kernel
theorem dL_pot_5 : decode cL_pot 5 = .ok (.iload_n 2, 1) := by decide +kernel
theorem dL_pot_6 : decode cL_pot 6 = .ok (.iload_n 3, 1) := by decide +kernel
theorem dL_pot_7 : decode cL_pot 7 = .ok (.iload 4, 2) := by decide +kernel
theorem dL_pot_9 : decode cL_pot 9 = .ok (.invokevirtual 21, 3) := by decide +kernel
theorem dL_pot_12 : decode cL_pot 12 = .ok (.i2l, 1) := by decide +kernel
theorem dL_pot_13 : decode cL_pot 13 = .ok (.lastore, 1) := by decide +kernel
theorem dL_pot_14 : decode cL_pot 14 = .ok (.goto 15, 3) := by decide +kernel
theorem dL_pot_17 : decode cL_pot 17 = .ok (.astore 6, 2) := by decide +kernel
theorem dL_pot_19 : decode cL_pot 19 = .ok (.iconst 1, 1) := by decide +kernel
theorem dL_pot_20 : decode cL_pot 20 = .ok (.ireturn, 1) := by decide +kernel
theorem dL_pot_21 : decode cL_pot 21 = .ok (.astore 6, 2) := by decide +kernel
theorem dL_pot_23 : decode cL_pot 23 = .ok (.iconst 2, 1) := by decide +kernel
theorem dL_pot_24 : decode cL_pot 24 = .ok (.ireturn, 1) := by decide +kernel
theorem dL_pot_25 : decode cL_pot 25 = .ok (.astore 6, 2) := by decide +kernel
theorem dL_pot_27 : decode cL_pot 27 = .ok (.iconst 3, 1) := by decide +kernel
theorem dL_pot_28 : decode cL_pot 28 = .ok (.ireturn, 1) := by decide +kernel
theorem dL_pot_29 : decode cL_pot 29 = .ok (.iconst 0, 1) := by decide +kernel
theorem dL_pot_30 : decode cL_pot 30 = .ok (.ireturn, 1) := by decide +kernel
theorem dL_cover_0 : decode cL_cover 0 = .ok (.aload_n 3, 1) := by decide +kernel
theorem dL_cover_1 : decode cL_cover 1 = .ok (.iconst 0, 1) := by decide +kernel
theorem dL_cover_2 : decode cL_cover 2 = .ok (.aload_n 0, 1) := by decide +kernel
theorem dL_cover_3 : decode cL_cover 3 = .ok (.iload_n 1, 1) := by decide +kernel
theorem dL_cover_4 : decode cL_cover 4 = .ok (.iload_n 2, 1) := by decide +kernel
theorem dL_cover_5 : decode cL_cover 5 = .ok (.invokevirtual 27, 3) := by decide +kernel
theorem dL_cover_8 : decode cL_cover 8 = .ok (.ifCond .eq 7, 3) := by decide +kernel
theorem dL_cover_11 : decode cL_cover 11 = .ok (.lconst 1, 1) := by decide +kernel
theorem dL_cover_12 : decode cL_cover 12 = .ok (.goto 4, 3) := by decide +kernel
theorem dL_cover_15 : decode cL_cover 15 = .ok (.lconst 0, 1) := by decide +kernel
theorem dL_cover_16 : decode cL_cover 16 = .ok (.lastore, 1) := by decide +kernel
theorem dL_cover_17 : decode cL_cover 17 = .ok (.goto 7, 3) := by decide +kernel
theorem dL_cover_20 : decode cL_cover 20 = .ok (.astore 4, 2) := by decide +kernel
theorem dL_cover_22 : decode cL_cover 22 = .ok (.iconst 1, 1) := by decide +kernel
theorem dL_cover_23 : decode cL_cover 23 = .ok (.ireturn, 1) := by decide +kernel
theorem dL_cover_24 : decode cL_cover 24 = .ok (.iconst 0, 1) := by decide +kernel
theorem dL_cover_25 : decode cL_cover 25 = .ok (.ireturn, 1) := by decide +kernel
theorem dL_dry_0 : decode cL_dry 0 = .ok (.aload_n 3, 1) := by decide +kernel
theorem dL_dry_1 : decode cL_dry 1 = .ok (.iconst 0, 1) := by decide +kernel
theorem dL_dry_2 : decode cL_dry 2 = .ok (.aload_n 0, 1) := by decide +kernel
theorem dL_dry_3 : decode cL_dry 3 = .ok (.iload_n 1, 1) := by decide +kernel
theorem dL_dry_4 : decode cL_dry 4 = .ok (.iload_n 2, 1) := by decide +kernel
theorem dL_dry_5 : decode cL_dry 5 = .ok (.invokevirtual 31, 3) := by decide +kernel
theorem dL_dry_8 : decode cL_dry 8 = .ok (.i2l, 1) := by decide +kernel
theorem dL_dry_9 : decode cL_dry 9 = .ok (.lastore, 1) := by decide +kernel
theorem dL_dry_10 : decode cL_dry 10 = .ok (.goto 11, 3) := by decide +kernel
theorem dL_dry_13 : decode cL_dry 13 = .ok (.astore 4, 2) := by decide +kernel
theorem dL_dry_15 : decode cL_dry 15 = .ok (.iconst 1, 1) := by decide +kernel
theorem dL_dry_16 : decode cL_dry 16 = .ok (.ireturn, 1) := by decide +kernel
theorem dL_dry_17 : decode cL_dry 17 = .ok (.astore 4, 2) := by decide +kernel
theorem dL_dry_19 : decode cL_dry 19 = .ok (.iconst 2, 1) := by decide +kernel
theorem dL_dry_20 : decode cL_dry 20 = .ok (.ireturn, 1) := by decide +kernel
theorem dL_dry_21 : decode cL_dry 21 = .ok (.iconst 0, 1) := by decide +kernel
theorem dL_dry_22 : decode cL_dry 22 = .ok (.ireturn, 1) := by decide +kernel
theorem dL_dip_0 : decode cL_dip 0 = .ok (.aload_n 3, 1) := by decide +kernel
theorem dL_dip_1 : decode cL_dip 1 = .ok (.iconst 0, 1) := by decide +kernel
theorem dL_dip_2 : decode cL_dip 2 = .ok (.aload_n 0, 1) := by decide +kernel
theorem dL_dip_3 : decode cL_dip 3 = .ok (.iload_n 1, 1) := by decide +kernel
theorem dL_dip_4 : decode cL_dip 4 = .ok (.iload_n 2, 1) := by decide +kernel
theorem dL_dip_5 : decode cL_dip 5 = .ok (.invokevirtual 34, 3) := by decide +kernel
theorem dL_dip_8 : decode cL_dip 8 = .ok (.i2l, 1) := by decide +kernel
theorem dL_dip_9 : decode cL_dip 9 = .ok (.lastore, 1) := by decide +kernel
theorem dL_dip_10 : decode cL_dip 10 = .ok (.goto 11, 3) := by decide +kernel
theorem dL_dip_13 : decode cL_dip 13 = .ok (.astore 4, 2) := by decide +kernel
theorem dL_dip_15 : decode cL_dip 15 = .ok (.iconst 1, 1) := by decide +kernel
theorem dL_dip_16 : decode cL_dip 16 = .ok (.ireturn, 1) := by decide +kernel
theorem dL_dip_17 : decode cL_dip 17 = .ok (.astore 4, 2) := by decide +kernel
theorem dL_dip_19 : decode cL_dip 19 = .ok (.iconst 2, 1) := by decide +kernel
theorem dL_dip_20 : decode cL_dip 20 = .ok (.ireturn, 1) := by decide +kernel
theorem dL_dip_21 : decode cL_dip 21 = .ok (.iconst 0, 1) := by decide +kernel
theorem dL_dip_22 : decode cL_dip 22 = .ok (.ireturn, 1) := by decide +kernel
theorem dL_set_0 : decode cL_set 0 = .ok (.aload 4, 2) := by decide +kernel
theorem dL_set_2 : decode cL_set 2 = .ok (.iconst 0, 1) := by decide +kernel
theorem dL_set_3 : decode cL_set 3 = .ok (.aload_n 0, 1) := by decide +kernel
theorem dL_set_4 : decode cL_set 4 = .ok (.iload_n 1, 1) := by decide +kernel
theorem dL_set_5 : decode cL_set 5 = .ok (.iload_n 2, 1) := by decide +kernel
theorem dL_set_6 : decode cL_set 6 = .ok (.iload_n 3, 1) := by decide +kernel
theorem dL_set_7 : decode cL_set 7 = .ok (.invokevirtual 37, 3) := by decide +kernel
theorem dL_set_10 : decode cL_set 10 = .ok (.i2l, 1) := by decide +kernel
theorem dL_set_11 : decode cL_set 11 = .ok (.lastore, 1) := by decide +kernel
theorem dL_set_12 : decode cL_set 12 = .ok (.goto 11, 3) := by decide +kernel
theorem dL_set_15 : decode cL_set 15 = .ok (.astore 5, 2) := by decide +kernel
theorem dL_set_17 : decode cL_set 17 = .ok (.iconst 1, 1) := by decide +kernel
theorem dL_set_18 : decode cL_set 18 = .ok (.ireturn, 1) := by decide +kernel
theorem dL_set_19 : decode cL_set 19 = .ok (.astore 5, 2) := by decide +kernel
theorem dL_set_21 : decode cL_set 21 = .ok (.iconst 2, 1) := by decide +kernel
theorem dL_set_22 : decode cL_set 22 = .ok (.ireturn, 1) := by decide +kernel
theorem dL_set_23 : decode cL_set 23 = .ok (.iconst 0, 1) := by decide +kernel
theorem dL_set_24 : decode cL_set 24 = .ok (.ireturn, 1) := by decide +kernel
theorem dL_take_0 : decode cL_take 0 = .ok (.aload_n 2, 1) := by decide +kernel
theorem dL_take_1 : decode cL_take 1 = .ok (.iconst 0, 1) := by decide +kernel
theorem dL_take_2 : decode cL_take 2 = .ok (.aload_n 0, 1) := by decide +kernel
theorem dL_take_3 : decode cL_take 3 = .ok (.iload_n 1, 1) := by decide +kernel
theorem dL_take_4 : decode cL_take 4 = .ok (.invokevirtual 41, 3) := by decide +kernel
theorem dL_take_7 : decode cL_take 7 = .ok (.i2l, 1) := by decide +kernel
theorem dL_take_8 : decode cL_take 8 = .ok (.lastore, 1) := by decide +kernel
theorem dL_take_9 : decode cL_take 9 = .ok (.goto 9, 3) := by decide +kernel
theorem dL_take_12 : decode cL_take 12 = .ok (.astore_n 3, 1) := by decide +kernel
theorem dL_take_13 : decode cL_take 13 = .ok (.iconst 1, 1) := by decide +kernel
theorem dL_take_14 : decode cL_take 14 = .ok (.ireturn, 1) := by decide +kernel
theorem dL_take_15 : decode cL_take 15 = .ok (.astore_n 3, 1) := by decide +kernel
theorem dL_take_16 : decode cL_take 16 = .ok (.iconst 2, 1) := by decide +kernel
theorem dL_take_17 : decode cL_take 17 = .ok (.ireturn, 1) := by decide +kernel
theorem dL_take_18 : decode cL_take 18 = .ok (.iconst 0, 1) := by decide +kernel
theorem dL_take_19 : decode cL_take 19 = .ok (.ireturn, 1) := by decide +kernel
theorem dL_ramp_0 : decode cL_ramp 0 = .ok (.aload 4, 2) := by decide +kernel
theorem dL_ramp_2 : decode cL_ramp 2 = .ok (.iconst 0, 1) := by decide +kernel
theorem dL_ramp_3 : decode cL_ramp 3 = .ok (.aload_n 0, 1) := by decide +kernel
theorem dL_ramp_4 : decode cL_ramp 4 = .ok (.iload_n 1, 1) := by decide +kernel
theorem dL_ramp_5 : decode cL_ramp 5 = .ok (.iload_n 2, 1) := by decide +kernel
theorem dL_ramp_6 : decode cL_ramp 6 = .ok (.iload_n 3, 1) := by decide +kernel
theorem dL_ramp_7 : decode cL_ramp 7 = .ok (.invokevirtual 45, 3) := by decide +kernel
theorem dL_ramp_10 : decode cL_ramp 10 = .ok (.i2l, 1) := by decide +kernel
theorem dL_ramp_11 : decode cL_ramp 11 = .ok (.lastore, 1) := by decide +kernel
theorem dL_ramp_12 : decode cL_ramp 12 = .ok (.goto 11, 3) := by decide +kernel
theorem dL_ramp_15 : decode cL_ramp 15 = .ok (.astore 5, 2) := by decide +kernel
theorem dL_ramp_17 : decode cL_ramp 17 = .ok (.iconst 1, 1) := by decide +kernel
theorem dL_ramp_18 : decode cL_ramp 18 = .ok (.ireturn, 1) := by decide +kernel
theorem dL_ramp_19 : decode cL_ramp 19 = .ok (.astore 5, 2) := by decide +kernel
theorem dL_ramp_21 : decode cL_ramp 21 = .ok (.iconst 2, 1) := by decide +kernel
theorem dL_ramp_22 : decode cL_ramp 22 = .ok (.ireturn, 1) := by decide +kernel
theorem dL_ramp_23 : decode cL_ramp 23 = .ok (.iconst 0, 1) := by decide +kernel
theorem dL_ramp_24 : decode cL_ramp 24 = .ok (.ireturn, 1) := by decide +kernel
theorem dL_forget_0 : decode cL_forget 0 = .ok (.aload_n 1, 1) := by decide +kernel
theorem dL_forget_1 : decode cL_forget 1 = .ok (.iconst 0, 1) := by decide +kernel
theorem dL_forget_2 : decode cL_forget 2 = .ok (.aload_n 0, 1) := by decide +kernel
theorem dL_forget_3 : decode cL_forget 3 = .ok (.invokevirtual 48, 3) := by decide +kernel
theorem dL_forget_6 : decode cL_forget 6 = .ok (.i2l, 1) := by decide +kernel
theorem dL_forget_7 : decode cL_forget 7 = .ok (.lastore, 1) := by decide +kernel
theorem dL_forget_8 : decode cL_forget 8 = .ok (.goto 6, 3) := by decide +kernel
theorem dL_forget_11 : decode cL_forget 11 = .ok (.astore_n 2, 1) := by decide +kernel
theorem dL_forget_12 : decode cL_forget 12 = .ok (.iconst 1, 1) := by decide +kernel
theorem dL_forget_13 : decode cL_forget 13 = .ok (.ireturn, 1) := by decide +kernel
theorem dL_forget_14 : decode cL_forget 14 = .ok (.iconst 0, 1) := by decide +kernel
theorem dL_forget_15 : decode cL_forget 15 = .ok (.ireturn, 1) := by decide +kernel
theorem dL_light_0 : decode cL_light 0 = .ok (.aload_n 1, 1) := by decide +kernel
theorem dL_light_1 : decode cL_light 1 = .ok (.iconst 0, 1) := by decide +kernel
theorem dL_light_2 : decode cL_light 2 = .ok (.aload_n 0, 1) := by decide +kernel
theorem dL_light_3 : decode cL_light 3 = .ok (.invokevirtual 52, 3) := by decide +kernel
theorem dL_light_6 : decode cL_light 6 = .ok (.i2l, 1) := by decide +kernel
theorem dL_light_7 : decode cL_light 7 = .ok (.lastore, 1) := by decide +kernel
theorem dL_light_8 : decode cL_light 8 = .ok (.goto 6, 3) := by decide +kernel
theorem dL_light_11 : decode cL_light 11 = .ok (.astore_n 2, 1) := by decide +kernel
theorem dL_light_12 : decode cL_light 12 = .ok (.iconst 1, 1) := by decide +kernel
theorem dL_light_13 : decode cL_light 13 = .ok (.ireturn, 1) := by decide +kernel
theorem dL_light_14 : decode cL_light 14 = .ok (.iconst 0, 1) := by decide +kernel
theorem dL_light_15 : decode cL_light 15 = .ok (.ireturn, 1) := by decide +kernel
theorem dL_burn_0 : decode cL_burn 0 = .ok (.aload_n 2, 1) := by decide +kernel
theorem dL_burn_1 : decode cL_burn 1 = .ok (.iconst 0, 1) := by decide +kernel
theorem dL_burn_2 : decode cL_burn 2 = .ok (.aload_n 0, 1) := by decide +kernel
theorem dL_burn_3 : decode cL_burn 3 = .ok (.iload_n 1, 1) := by decide +kernel
theorem dL_burn_4 : decode cL_burn 4 = .ok (.invokevirtual 55, 3) := by decide +kernel
theorem dL_burn_7 : decode cL_burn 7 = .ok (.ifCond .eq 7, 3) := by decide +kernel
theorem dL_burn_10 : decode cL_burn 10 = .ok (.lconst 1, 1) := by decide +kernel
theorem dL_burn_11 : decode cL_burn 11 = .ok (.goto 4, 3) := by decide +kernel
theorem dL_burn_14 : decode cL_burn 14 = .ok (.lconst 0, 1) := by decide +kernel
theorem dL_burn_15 : decode cL_burn 15 = .ok (.lastore, 1) := by decide +kernel
theorem dL_burn_16 : decode cL_burn 16 = .ok (.goto 6, 3) := by decide +kernel
theorem dL_burn_19 : decode cL_burn 19 = .ok (.astore_n 3, 1) := by decide +kernel
theorem dL_burn_20 : decode cL_burn 20 = .ok (.iconst 1, 1) := by decide +kernel
theorem dL_burn_21 : decode cL_burn 21 = .ok (.ireturn, 1) := by decide +kernel
theorem dL_burn_22 : decode cL_burn 22 = .ok (.iconst 0, 1) := by decide +kernel
theorem dL_burn_23 : decode cL_burn 23 = .ok (.ireturn, 1) := by decide +kernel
theorem dL_damper_0 : decode cL_damper 0 = .ok (.aload_n 2, 1) := by decide +kernel
theorem dL_damper_1 : decode cL_damper 1 = .ok (.iconst 0, 1) := by decide +kernel
theorem dL_damper_2 : decode cL_damper 2 = .ok (.aload_n 0, 1) := by decide +kernel
theorem dL_damper_3 : decode cL_damper 3 = .ok (.iload_n 1, 1) := by decide +kernel
theorem dL_damper_4 : decode cL_damper 4 = .ok (.invokevirtual 59, 3) := by decide +kernel
theorem dL_damper_7 : decode cL_damper 7 = .ok (.i2l, 1) := by decide +kernel
theorem dL_damper_8 : decode cL_damper 8 = .ok (.lastore, 1) := by decide +kernel
theorem dL_damper_9 : decode cL_damper 9 = .ok (.goto 6, 3) := by decide +kernel
theorem dL_damper_12 : decode cL_damper 12 = .ok (.astore_n 3, 1) := by decide +kernel
theorem dL_damper_13 : decode cL_damper 13 = .ok (.iconst 1, 1) := by decide +kernel
theorem dL_damper_14 : decode cL_damper 14 = .ok (.ireturn, 1) := by decide +kernel
theorem dL_damper_15 : decode cL_damper 15 = .ok (.iconst 0, 1) := by decide +kernel
theorem dL_damper_16 : decode cL_damper 16 = .ok (.ireturn, 1) := by decide +kernel
theorem dL_unload_0 : decode cL_unload 0 = .ok (.aload_n 1, 1) := by decide +kernel
theorem dL_unload_1 : decode cL_unload 1 = .ok (.iconst 0, 1) := by decide +kernel
theorem dL_unload_2 : decode cL_unload 2 = .ok (.aload_n 0, 1) := by decide +kernel
theorem dL_unload_3 : decode cL_unload 3 = .ok (.invokevirtual 62, 3) := by decide +kernel
theorem dL_unload_6 : decode cL_unload 6 = .ok (.i2l, 1) := by decide +kernel
theorem dL_unload_7 : decode cL_unload 7 = .ok (.lastore, 1) := by decide +kernel
theorem dL_unload_8 : decode cL_unload 8 = .ok (.goto 6, 3) := by decide +kernel
theorem dL_unload_11 : decode cL_unload 11 = .ok (.astore_n 2, 1) := by decide +kernel
theorem dL_unload_12 : decode cL_unload 12 = .ok (.iconst 1, 1) := by decide +kernel
theorem dL_unload_13 : decode cL_unload 13 = .ok (.ireturn, 1) := by decide +kernel
theorem dL_unload_14 : decode cL_unload 14 = .ok (.iconst 0, 1) := by decide +kernel
theorem dL_unload_15 : decode cL_unload 15 = .ok (.ireturn, 1) := by decide +kernel
theorem dL_order_0 : decode cL_order 0 = .ok (.aload 5, 2) := by decide +kernel
theorem dL_order_2 : decode cL_order 2 = .ok (.iconst 0, 1) := by decide +kernel
theorem dL_order_3 : decode cL_order 3 = .ok (.aload_n 0, 1) := by decide +kernel
theorem dL_order_4 : decode cL_order 4 = .ok (.iload_n 1, 1) := by decide +kernel
theorem dL_order_5 : decode cL_order 5 = .ok (.iload_n 2, 1) := by decide +kernel
theorem dL_order_6 : decode cL_order 6 = .ok (.iload_n 3, 1) := by decide +kernel
theorem dL_order_7 : decode cL_order 7 = .ok (.iload 4, 2) := by decide +kernel
theorem dL_order_9 : decode cL_order 9 = .ok (.invokevirtual 65, 3) := by decide +kernel
theorem dL_order_12 : decode cL_order 12 = .ok (.i2l, 1) := by decide +kernel
theorem dL_order_13 : decode cL_order 13 = .ok (.lastore, 1) := by decide +kernel
theorem dL_order_14 : decode cL_order 14 = .ok (.goto 15, 3) := by decide +kernel
theorem dL_order_17 : decode cL_order 17 = .ok (.astore 6, 2) := by decide +kernel
theorem dL_order_19 : decode cL_order 19 = .ok (.iconst 1, 1) := by decide +kernel
theorem dL_order_20 : decode cL_order 20 = .ok (.ireturn, 1) := by decide +kernel
theorem dL_order_21 : decode cL_order 21 = .ok (.astore 6, 2) := by decide +kernel
theorem dL_order_23 : decode cL_order 23 = .ok (.iconst 2, 1) := by decide +kernel
theorem dL_order_24 : decode cL_order 24 = .ok (.ireturn, 1) := by decide +kernel
theorem dL_order_25 : decode cL_order 25 = .ok (.astore 6, 2) := by decide +kernel
theorem dL_order_27 : decode cL_order 27 = .ok (.iconst 3, 1) := by decide +kernel
theorem dL_order_28 : decode cL_order 28 = .ok (.ireturn, 1) := by decide +kernel
theorem dL_order_29 : decode cL_order 29 = .ok (.iconst 0, 1) := by decide +kernel
theorem dL_order_30 : decode cL_order 30 = .ok (.ireturn, 1) := by decide +kernel
theorem dL_meet_0 : decode cL_meet 0 = .ok (.aload_n 3, 1) := by decide +kernel
theorem dL_meet_1 : decode cL_meet 1 = .ok (.iconst 0, 1) := by decide +kernel
theorem dL_meet_2 : decode cL_meet 2 = .ok (.aload_n 0, 1) := by decide +kernel
theorem dL_meet_3 : decode cL_meet 3 = .ok (.iload_n 1, 1) := by decide +kernel
theorem dL_meet_4 : decode cL_meet 4 = .ok (.iload_n 2, 1) := by decide +kernel
theorem dL_meet_5 : decode cL_meet 5 = .ok (.invokevirtual 68, 3) := by decide +kernel
theorem dL_meet_8 : decode cL_meet 8 = .ok (.i2l, 1) := by decide +kernel
theorem dL_meet_9 : decode cL_meet 9 = .ok (.lastore, 1) := by decide +kernel
theorem dL_meet_10 : decode cL_meet 10 = .ok (.goto 11, 3) := by decide +kernel
theorem dL_meet_13 : decode cL_meet 13 = .ok (.astore 4, 2) := by decide +kernel
theorem dL_meet_15 : decode cL_meet 15 = .ok (.iconst 1, 1) := by decide +kernel
theorem dL_meet_16 : decode cL_meet 16 = .ok (.ireturn, 1) := by decide +kernel
theorem dL_meet_17 : decode cL_meet 17 = .ok (.astore 4, 2) := by decide +kernel
theorem dL_meet_19 : decode cL_meet 19 = .ok (.iconst 2, 1) := by decide +kernel
theorem dL_meet_20 : decode cL_meet 20 = .ok (.ireturn, 1) := by decide +kernel
theorem dL_meet_21 : decode cL_meet 21 = .ok (.iconst 0, 1) := by decide +kernel
theorem dL_meet_22 : decode cL_meet 22 = .ok (.ireturn, 1) := by decide +kernel
theorem dL_ofPot_0 : decode cL_ofPot 0 = .ok (.aload_n 3, 1) := by decide +kernel
theorem dL_ofPot_1 : decode cL_ofPot 1 = .ok (.iconst 0, 1) := by decide +kernel
theorem dL_ofPot_2 : decode cL_ofPot 2 = .ok (.aload_n 0, 1) := by decide +kernel
theorem dL_ofPot_3 : decode cL_ofPot 3 = .ok (.iload_n 1, 1) := by decide +kernel
theorem dL_ofPot_4 : decode cL_ofPot 4 = .ok (.iload_n 2, 1) := by decide +kernel
theorem dL_ofPot_5 : decode cL_ofPot 5 = .ok (.invokevirtual 71, 3) := by decide +kernel
theorem dL_ofPot_8 : decode cL_ofPot 8 = .ok (.i2l, 1) := by decide +kernel
theorem dL_ofPot_9 : decode cL_ofPot 9 = .ok (.lastore, 1) := by decide +kernel
theorem dL_ofPot_10 : decode cL_ofPot 10 = .ok (.goto 11, 3) := by decide +kernel
theorem dL_ofPot_13 : decode cL_ofPot 13 = .ok (.astore 4, 2) := by decide +kernel
theorem dL_ofPot_15 : decode cL_ofPot 15 = .ok (.iconst 1, 1) := by decide +kernel
theorem dL_ofPot_16 : decode cL_ofPot 16 = .ok (.ireturn, 1) := by decide +kernel
theorem dL_ofPot_17 : decode cL_ofPot 17 = .ok (.astore 4, 2) := by decide +kernel
theorem dL_ofPot_19 : decode cL_ofPot 19 = .ok (.iconst 2, 1) := by decide +kernel
theorem dL_ofPot_20 : decode cL_ofPot 20 = .ok (.ireturn, 1) := by decide +kernel
theorem dL_ofPot_21 : decode cL_ofPot 21 = .ok (.iconst 0, 1) := by decide +kernel
theorem dL_ofPot_22 : decode cL_ofPot 22 = .ok (.ireturn, 1) := by decide +kernel
theorem dL_water_0 : decode cL_water 0 = .ok (.aload_n 2, 1) := by decide +kernel
theorem dL_water_1 : decode cL_water 1 = .ok (.iconst 0, 1) := by decide +kernel
theorem dL_water_2 : decode cL_water 2 = .ok (.aload_n 0, 1) := by decide +kernel
theorem dL_water_3 : decode cL_water 3 = .ok (.iload_n 1, 1) := by decide +kernel
theorem dL_water_4 : decode cL_water 4 = .ok (.invokevirtual 74, 3) := by decide +kernel
theorem dL_water_7 : decode cL_water 7 = .ok (.dastore, 1) := by decide +kernel
theorem dL_water_8 : decode cL_water 8 = .ok (.goto 6, 3) := by decide +kernel
theorem dL_water_11 : decode cL_water 11 = .ok (.astore_n 3, 1) := by decide +kernel
theorem dL_water_12 : decode cL_water 12 = .ok (.iconst 1, 1) := by decide +kernel
theorem dL_water_13 : decode cL_water 13 = .ok (.ireturn, 1) := by decide +kernel
theorem dL_water_14 : decode cL_water 14 = .ok (.iconst 0, 1) := by decide +kernel
theorem dL_water_15 : decode cL_water 15 = .ok (.ireturn, 1) := by decide +kernel
theorem dL_ofGlaze_0 : decode cL_ofGlaze 0 = .ok (.aload_n 3, 1) := by decide +kernel
theorem dL_ofGlaze_1 : decode cL_ofGlaze 1 = .ok (.iconst 0, 1) := by decide +kernel
theorem dL_ofGlaze_2 : decode cL_ofGlaze 2 = .ok (.aload_n 0, 1) := by decide +kernel
theorem dL_ofGlaze_3 : decode cL_ofGlaze 3 = .ok (.iload_n 1, 1) := by decide +kernel
theorem dL_ofGlaze_4 : decode cL_ofGlaze 4 = .ok (.iload_n 2, 1) := by decide +kernel
theorem dL_ofGlaze_5 : decode cL_ofGlaze 5 = .ok (.invokevirtual 78, 3) := by decide +kernel
theorem dL_ofGlaze_8 : decode cL_ofGlaze 8 = .ok (.dastore, 1) := by decide +kernel
theorem dL_ofGlaze_9 : decode cL_ofGlaze 9 = .ok (.goto 11, 3) := by decide +kernel
theorem dL_ofGlaze_12 : decode cL_ofGlaze 12 = .ok (.astore 4, 2) := by decide +kernel
theorem dL_ofGlaze_14 : decode cL_ofGlaze 14 = .ok (.iconst 1, 1) := by decide +kernel
theorem dL_ofGlaze_15 : decode cL_ofGlaze 15 = .ok (.ireturn, 1) := by decide +kernel
theorem dL_ofGlaze_16 : decode cL_ofGlaze 16 = .ok (.astore 4, 2) := by decide +kernel
theorem dL_ofGlaze_18 : decode cL_ofGlaze 18 = .ok (.iconst 2, 1) := by decide +kernel
theorem dL_ofGlaze_19 : decode cL_ofGlaze 19 = .ok (.ireturn, 1) := by decide +kernel
theorem dL_ofGlaze_20 : decode cL_ofGlaze 20 = .ok (.iconst 0, 1) := by decide +kernel
theorem dL_ofGlaze_21 : decode cL_ofGlaze 21 = .ok (.ireturn, 1) := by decide +kernel
theorem dL_kiln_0 : decode cL_kiln 0 = .ok (.aload_n 2, 1) := by decide +kernel
theorem dL_kiln_1 : decode cL_kiln 1 = .ok (.iconst 0, 1) := by decide +kernel
theorem dL_kiln_2 : decode cL_kiln 2 = .ok (.aload_n 0, 1) := by decide +kernel
theorem dL_kiln_3 : decode cL_kiln 3 = .ok (.iload_n 1, 1) := by decide +kernel
theorem dL_kiln_4 : decode cL_kiln 4 = .ok (.invokevirtual 82, 3) := by decide +kernel
theorem dL_kiln_7 : decode cL_kiln 7 = .ok (.dastore, 1) := by decide +kernel
theorem dL_kiln_8 : decode cL_kiln 8 = .ok (.goto 6, 3) := by decide +kernel
theorem dL_kiln_11 : decode cL_kiln 11 = .ok (.astore_n 3, 1) := by decide +kernel
theorem dL_kiln_12 : decode cL_kiln 12 = .ok (.iconst 1, 1) := by decide +kernel
theorem dL_kiln_13 : decode cL_kiln 13 = .ok (.ireturn, 1) := by decide +kernel
theorem dL_kiln_14 : decode cL_kiln 14 = .ok (.iconst 0, 1) := by decide +kernel
theorem dL_kiln_15 : decode cL_kiln 15 = .ok (.ireturn, 1) := by decide +kernel
theorem dL_ofShelf_0 : decode cL_ofShelf 0 = .ok (.aload_n 3, 1) := by decide +kernel
theorem dL_ofShelf_1 : decode cL_ofShelf 1 = .ok (.iconst 0, 1) := by decide +kernel
theorem dL_ofShelf_2 : decode cL_ofShelf 2 = .ok (.aload_n 0, 1) := by decide +kernel
theorem dL_ofShelf_3 : decode cL_ofShelf 3 = .ok (.iload_n 1, 1) := by decide +kernel
theorem dL_ofShelf_4 : decode cL_ofShelf 4 = .ok (.iload_n 2, 1) := by decide +kernel
theorem dL_ofShelf_5 : decode cL_ofShelf 5 = .ok (.invokevirtual 85, 3) := by decide +kernel
theorem dL_ofShelf_8 : decode cL_ofShelf 8 = .ok (.i2l, 1) := by decide +kernel
theorem dL_ofShelf_9 : decode cL_ofShelf 9 = .ok (.lastore, 1) := by decide +kernel
theorem dL_ofShelf_10 : decode cL_ofShelf 10 = .ok (.goto 11, 3) := by decide +kernel
theorem dL_ofShelf_13 : decode cL_ofShelf 13 = .ok (.astore 4, 2) := by decide +kernel
theorem dL_ofShelf_15 : decode cL_ofShelf 15 = .ok (.iconst 1, 1) := by decide +kernel
theorem dL_ofShelf_16 : decode cL_ofShelf 16 = .ok (.ireturn, 1) := by decide +kernel
theorem dL_ofShelf_17 : decode cL_ofShelf 17 = .ok (.astore 4, 2) := by decide +kernel
theorem dL_ofShelf_19 : decode cL_ofShelf 19 = .ok (.iconst 2, 1) := by decide +kernel
theorem dL_ofShelf_20 : decode cL_ofShelf 20 = .ok (.ireturn, 1) := by decide +kernel
theorem dL_ofShelf_21 : decode cL_ofShelf 21 = .ok (.iconst 0, 1) := by decide +kernel
theorem dL_ofShelf_22 : decode cL_ofShelf 22 = .ok (.ireturn, 1) := by decide +kernel
theorem dL_many_0 : decode cL_many 0 = .ok (.aload_n 2, 1) := by decide +kernel
theorem dL_many_1 : decode cL_many 1 = .ok (.iconst 0, 1) := by decide +kernel
theorem dL_many_2 : decode cL_many 2 = .ok (.aload_n 0, 1) := by decide +kernel
theorem dL_many_3 : decode cL_many 3 = .ok (.iload_n 1, 1) := by decide +kernel
theorem dL_many_4 : decode cL_many 4 = .ok (.invokevirtual 88, 3) := by decide +kernel
theorem dL_many_7 : decode cL_many 7 = .ok (.i2l, 1) := by decide +kernel
theorem dL_many_8 : decode cL_many 8 = .ok (.lastore, 1) := by decide +kernel
theorem dL_many_9 : decode cL_many 9 = .ok (.goto 6, 3) := by decide +kernel
theorem dL_many_12 : decode cL_many 12 = .ok (.astore_n 3, 1) := by decide +kernel
theorem dL_many_13 : decode cL_many 13 = .ok (.iconst 1, 1) := by decide +kernel
theorem dL_many_14 : decode cL_many 14 = .ok (.ireturn, 1) := by decide +kernel
theorem dL_many_15 : decode cL_many 15 = .ok (.iconst 0, 1) := by decide +kernel
theorem dL_many_16 : decode cL_many 16 = .ok (.ireturn, 1) := by decide +kernel
theorem dL_wouldCone_0 : decode cL_wouldCone 0 = .ok (.aload_n 3, 1) := by decide +kernel
theorem dL_wouldCone_1 : decode cL_wouldCone 1 = .ok (.iconst 0, 1) := by decide +kernel
theorem dL_wouldCone_2 : decode cL_wouldCone 2 = .ok (.aload_n 0, 1) := by decide +kernel
theorem dL_wouldCone_3 : decode cL_wouldCone 3 = .ok (.iload_n 1, 1) := by decide +kernel
theorem dL_wouldCone_4 : decode cL_wouldCone 4 = .ok (.iload_n 2, 1) := by decide +kernel
theorem dL_wouldCone_5 : decode cL_wouldCone 5 = .ok (.invokevirtual 91, 3) := by decide +kernel
theorem dL_wouldCone_8 : decode cL_wouldCone 8 = .ok (.i2l, 1) := by decide +kernel
theorem dL_wouldCone_9 : decode cL_wouldCone 9 = .ok (.lastore, 1) := by decide +kernel
theorem dL_wouldCone_10 : decode cL_wouldCone 10 = .ok (.goto 11, 3) := by decide +kernel
theorem dL_wouldCone_13 : decode cL_wouldCone 13 = .ok (.astore 4, 2) := by decide +kernel
theorem dL_wouldCone_15 : decode cL_wouldCone 15 = .ok (.iconst 1, 1) := by decide +kernel
theorem dL_wouldCone_16 : decode cL_wouldCone 16 = .ok (.ireturn, 1) := by decide +kernel
theorem dL_wouldCone_17 : decode cL_wouldCone 17 = .ok (.astore 4, 2) := by decide +kernel
theorem dL_wouldCone_19 : decode cL_wouldCone 19 = .ok (.iconst 2, 1) := by decide +kernel
theorem dL_wouldCone_20 : decode cL_wouldCone 20 = .ok (.ireturn, 1) := by decide +kernel
theorem dL_wouldCone_21 : decode cL_wouldCone 21 = .ok (.iconst 0, 1) := by decide +kernel
theorem dL_wouldCone_22 : decode cL_wouldCone 22 = .ok (.ireturn, 1) := by decide +kernel
theorem dL_best_0 : decode cL_best 0 = .ok (.aload_n 3, 1) := by decide +kernel
theorem dL_best_1 : decode cL_best 1 = .ok (.iconst 0, 1) := by decide +kernel
theorem dL_best_2 : decode cL_best 2 = .ok (.aload_n 0, 1) := by decide +kernel
theorem dL_best_3 : decode cL_best 3 = .ok (.iload_n 1, 1) := by decide +kernel
theorem dL_best_4 : decode cL_best 4 = .ok (.iload_n 2, 1) := by decide +kernel
theorem dL_best_5 : decode cL_best 5 = .ok (.invokevirtual 94, 3) := by decide +kernel
theorem dL_best_8 : decode cL_best 8 = .ok (.i2l, 1) := by decide +kernel
theorem dL_best_9 : decode cL_best 9 = .ok (.lastore, 1) := by decide +kernel
theorem dL_best_10 : decode cL_best 10 = .ok (.goto 11, 3) := by decide +kernel
theorem dL_best_13 : decode cL_best 13 = .ok (.astore 4, 2) := by decide +kernel
theorem dL_best_15 : decode cL_best 15 = .ok (.iconst 1, 1) := by decide +kernel
theorem dL_best_16 : decode cL_best 16 = .ok (.ireturn, 1) := by decide +kernel
theorem dL_best_17 : decode cL_best 17 = .ok (.astore 4, 2) := by decide +kernel
theorem dL_best_19 : decode cL_best 19 = .ok (.iconst 2, 1) := by decide +kernel
theorem dL_best_20 : decode cL_best 20 = .ok (.ireturn, 1) := by decide +kernel
theorem dL_best_21 : decode cL_best 21 = .ok (.iconst 0, 1) := by decide +kernel
theorem dL_best_22 : decode cL_best 22 = .ok (.ireturn, 1) := by decide +kernel
theorem dL_wouldHold_0 : decode cL_wouldHold 0 = .ok (.aload_n 2, 1) := by decide +kernel
theorem dL_wouldHold_1 : decode cL_wouldHold 1 = .ok (.iconst 0, 1) := by decide +kernel
theorem dL_wouldHold_2 : decode cL_wouldHold 2 = .ok (.aload_n 0, 1) := by decide +kernel
theorem dL_wouldHold_3 : decode cL_wouldHold 3 = .ok (.iload_n 1, 1) := by decide +kernel
theorem dL_wouldHold_4 : decode cL_wouldHold 4 = .ok (.invokevirtual 97, 3) := by decide +kernel
theorem dL_wouldHold_7 : decode cL_wouldHold 7 = .ok (.i2l, 1) := by decide +kernel
theorem dL_wouldHold_8 : decode cL_wouldHold 8 = .ok (.lastore, 1) := by decide +kernel
theorem dL_wouldHold_9 : decode cL_wouldHold 9 = .ok (.goto 6, 3) := by decide +kernel
theorem dL_wouldHold_12 : decode cL_wouldHold 12 = .ok (.astore_n 3, 1) := by decide +kernel
theorem dL_wouldHold_13 : decode cL_wouldHold 13 = .ok (.iconst 1, 1) := by decide +kernel
theorem dL_wouldHold_14 : decode cL_wouldHold 14 = .ok (.ireturn, 1) := by decide +kernel
theorem dL_wouldHold_15 : decode cL_wouldHold 15 = .ok (.iconst 0, 1) := by decide +kernel
theorem dL_wouldHold_16 : decode cL_wouldHold 16 = .ok (.ireturn, 1) := by decide +kernel
theorem dL_law_0 : decode cL_law 0 = .ok (.new 8, 3) := by decide +kernel
theorem dL_law_3 : decode cL_law 3 = .ok (.dup, 1) := by decide +kernel
theorem dL_law_4 : decode cL_law 4 = .ok (.invokespecial 100, 3) := by decide +kernel
theorem dL_law_7 : decode cL_law 7 = .ok (.astore_n 1, 1) := by decide +kernel
theorem dL_law_8 : decode cL_law 8 = .ok (.new 101, 3) := by decide +kernel
theorem dL_law_11 : decode cL_law 11 = .ok (.dup, 1) := by decide +kernel
theorem dL_law_12 : decode cL_law 12 = .ok (.invokespecial 103, 3) := by decide +kernel
theorem dL_law_15 : decode cL_law 15 = .ok (.astore_n 2, 1) := by decide +kernel
theorem dL_law_16 : decode cL_law 16 = .ok (.iconst 1, 1) := by decide +kernel
theorem dL_law_17 : decode cL_law 17 = .ok (.newarray .long, 2) := by decide +kernel
theorem dL_law_19 : decode cL_law 19 = .ok (.astore_n 3, 1) := by decide +kernel
theorem dL_law_20 : decode cL_law 20 = .ok (.iconst 1, 1) := by decide +kernel
theorem dL_law_21 : decode cL_law 21 = .ok (.newarray .double, 2) := by decide +kernel
theorem dL_law_23 : decode cL_law 23 = .ok (.astore 4, 2) := by decide +kernel
theorem dL_law_25 : decode cL_law 25 = .ok (.iconst 0, 1) := by decide +kernel
theorem dL_law_26 : decode cL_law 26 = .ok (.istore 5, 2) := by decide +kernel
theorem dL_law_28 : decode cL_law 28 = .ok (.iload 5, 2) := by decide +kernel
theorem dL_law_30 : decode cL_law 30 = .ok (.aload_n 0, 1) := by decide +kernel
theorem dL_law_31 : decode cL_law 31 = .ok (.arraylength, 1) := by decide +kernel
theorem dL_law_32 : decode cL_law 32 = .ok (.bipush 6, 2) := by decide +kernel
theorem dL_law_34 : decode cL_law 34 = .ok (.isub, 1) := by decide +kernel
theorem dL_law_35 : decode cL_law 35 = .ok (.if_icmp .gt 1973, 3) := by decide +kernel
theorem dL_law_38 : decode cL_law 38 = .ok (.aload_n 0, 1) := by decide +kernel
theorem dL_law_39 : decode cL_law 39 = .ok (.iload 5, 2) := by decide +kernel
theorem dL_law_41 : decode cL_law 41 = .ok (.iaload, 1) := by decide +kernel
theorem dL_law_42 : decode cL_law 42 = .ok (.bipush 31, 2) := by decide +kernel
theorem dL_law_44 : decode cL_law 44 = .ok (.iand, 1) := by decide +kernel
theorem dL_law_45 : decode cL_law 45 = .ok (.tableswitch 1957 0 28 #[131, 199, 303, 395, 486, 554, 622, 702, 758, 838, 882, 926, 989, 1045, 1086, 1099, 1143, 1235, 1303, 1371, 1448, 1537, 1614, 1682, 1738, 1806, 1819, 1887, 1943], 131) := by decide +kernel
theorem dL_law_176 : decode cL_law 176 = .ok (.aload_n 1, 1) := by decide +kernel
theorem dL_law_177 : decode cL_law 177 = .ok (.aload_n 0, 1) := by decide +kernel
theorem dL_law_178 : decode cL_law 178 = .ok (.iload 5, 2) := by decide +kernel
theorem dL_law_180 : decode cL_law 180 = .ok (.iconst 1, 1) := by decide +kernel
theorem dL_law_181 : decode cL_law 181 = .ok (.iadd, 1) := by decide +kernel
theorem dL_law_182 : decode cL_law 182 = .ok (.iaload, 1) := by decide +kernel
theorem dL_law_183 : decode cL_law 183 = .ok (.aload_n 0, 1) := by decide +kernel
theorem dL_law_184 : decode cL_law 184 = .ok (.iload 5, 2) := by decide +kernel
theorem dL_law_186 : decode cL_law 186 = .ok (.iconst 2, 1) := by decide +kernel
theorem dL_law_187 : decode cL_law 187 = .ok (.iadd, 1) := by decide +kernel
theorem dL_law_188 : decode cL_law 188 = .ok (.iaload, 1) := by decide +kernel
theorem dL_law_189 : decode cL_law 189 = .ok (.aload_n 3, 1) := by decide +kernel
theorem dL_law_190 : decode cL_law 190 = .ok (.invokestatic 104, 3) := by decide +kernel
theorem dL_law_193 : decode cL_law 193 = .ok (.istore 6, 2) := by decide +kernel
theorem dL_law_195 : decode cL_law 195 = .ok (.aload_n 2, 1) := by decide +kernel
theorem dL_law_196 : decode cL_law 196 = .ok (.aload_n 0, 1) := by decide +kernel
theorem dL_law_197 : decode cL_law 197 = .ok (.iload 5, 2) := by decide +kernel
theorem dL_law_199 : decode cL_law 199 = .ok (.iconst 1, 1) := by decide +kernel
theorem dL_law_200 : decode cL_law 200 = .ok (.iadd, 1) := by decide +kernel
theorem dL_law_201 : decode cL_law 201 = .ok (.iaload, 1) := by decide +kernel
theorem dL_law_202 : decode cL_law 202 = .ok (.aload_n 0, 1) := by decide +kernel
theorem dL_law_203 : decode cL_law 203 = .ok (.iload 5, 2) := by decide +kernel
theorem dL_law_205 : decode cL_law 205 = .ok (.iconst 2, 1) := by decide +kernel
theorem dL_law_206 : decode cL_law 206 = .ok (.iadd, 1) := by decide +kernel
theorem dL_law_207 : decode cL_law 207 = .ok (.iaload, 1) := by decide +kernel
theorem dL_law_208 : decode cL_law 208 = .ok (.invokevirtual 109, 3) := by decide +kernel
theorem dL_law_211 : decode cL_law 211 = .ok (.istore 7, 2) := by decide +kernel
theorem dL_law_213 : decode cL_law 213 = .ok (.aload_n 2, 1) := by decide +kernel
theorem dL_law_214 : decode cL_law 214 = .ok (.invokevirtual 110, 3) := by decide +kernel
theorem dL_law_217 : decode cL_law 217 = .ok (.iload 6, 2) := by decide +kernel
theorem dL_law_219 : decode cL_law 219 = .ok (.if_icmp .eq 5, 3) := by decide +kernel
theorem dL_law_222 : decode cL_law 222 = .ok (.iconst 0, 1) := by decide +kernel
theorem dL_law_223 : decode cL_law 223 = .ok (.ireturn, 1) := by decide +kernel
theorem dL_law_224 : decode cL_law 224 = .ok (.iload 6, 2) := by decide +kernel
theorem dL_law_226 : decode cL_law 226 = .ok (.ifCond .ne 15, 3) := by decide +kernel
theorem dL_law_229 : decode cL_law 229 = .ok (.aload_n 3, 1) := by decide +kernel
theorem dL_law_230 : decode cL_law 230 = .ok (.iconst 0, 1) := by decide +kernel
theorem dL_law_231 : decode cL_law 231 = .ok (.laload, 1) := by decide +kernel
theorem dL_law_232 : decode cL_law 232 = .ok (.iload 7, 2) := by decide +kernel
theorem dL_law_234 : decode cL_law 234 = .ok (.i2l, 1) := by decide +kernel
theorem dL_law_235 : decode cL_law 235 = .ok (.lcmp, 1) := by decide +kernel
theorem dL_law_236 : decode cL_law 236 = .ok (.ifCond .eq 5, 3) := by decide +kernel
theorem dL_law_239 : decode cL_law 239 = .ok (.iconst 0, 1) := by decide +kernel
theorem dL_law_240 : decode cL_law 240 = .ok (.ireturn, 1) := by decide +kernel
theorem dL_law_241 : decode cL_law 241 = .ok (.goto 1761, 3) := by decide +kernel
theorem dL_law_244 : decode cL_law 244 = .ok (.aload_n 1, 1) := by decide +kernel
theorem dL_law_245 : decode cL_law 245 = .ok (.aload_n 0, 1) := by decide +kernel
theorem dL_law_246 : decode cL_law 246 = .ok (.iload 5, 2) := by decide +kernel
theorem dL_law_248 : decode cL_law 248 = .ok (.iconst 1, 1) := by decide +kernel
theorem dL_law_249 : decode cL_law 249 = .ok (.iadd, 1) := by decide +kernel
theorem dL_law_250 : decode cL_law 250 = .ok (.iaload, 1) := by decide +kernel
theorem dL_law_251 : decode cL_law 251 = .ok (.aload_n 0, 1) := by decide +kernel
theorem dL_law_252 : decode cL_law 252 = .ok (.iload 5, 2) := by decide +kernel
theorem dL_law_254 : decode cL_law 254 = .ok (.iconst 2, 1) := by decide +kernel
theorem dL_law_255 : decode cL_law 255 = .ok (.iadd, 1) := by decide +kernel
theorem dL_law_256 : decode cL_law 256 = .ok (.iaload, 1) := by decide +kernel
theorem dL_law_257 : decode cL_law 257 = .ok (.aload_n 0, 1) := by decide +kernel
theorem dL_law_258 : decode cL_law 258 = .ok (.iload 5, 2) := by decide +kernel
theorem dL_law_260 : decode cL_law 260 = .ok (.iconst 3, 1) := by decide +kernel
theorem dL_law_261 : decode cL_law 261 = .ok (.iadd, 1) := by decide +kernel
theorem dL_law_262 : decode cL_law 262 = .ok (.iaload, 1) := by decide +kernel
theorem dL_law_263 : decode cL_law 263 = .ok (.aload_n 0, 1) := by decide +kernel
theorem dL_law_264 : decode cL_law 264 = .ok (.iload 5, 2) := by decide +kernel
theorem dL_law_266 : decode cL_law 266 = .ok (.iconst 4, 1) := by decide +kernel
theorem dL_law_267 : decode cL_law 267 = .ok (.iadd, 1) := by decide +kernel
theorem dL_law_268 : decode cL_law 268 = .ok (.iaload, 1) := by decide +kernel
theorem dL_law_269 : decode cL_law 269 = .ok (.aload_n 0, 1) := by decide +kernel
theorem dL_law_270 : decode cL_law 270 = .ok (.iload 5, 2) := by decide +kernel
theorem dL_law_272 : decode cL_law 272 = .ok (.iconst 5, 1) := by decide +kernel
theorem dL_law_273 : decode cL_law 273 = .ok (.iadd, 1) := by decide +kernel
theorem dL_law_274 : decode cL_law 274 = .ok (.iaload, 1) := by decide +kernel
theorem dL_law_275 : decode cL_law 275 = .ok (.aload_n 3, 1) := by decide +kernel
theorem dL_law_276 : decode cL_law 276 = .ok (.invokestatic 113, 3) := by decide +kernel
theorem dL_law_279 : decode cL_law 279 = .ok (.istore 6, 2) := by decide +kernel
theorem dL_law_281 : decode cL_law 281 = .ok (.aload_n 2, 1) := by decide +kernel
theorem dL_law_282 : decode cL_law 282 = .ok (.aload_n 0, 1) := by decide +kernel
theorem dL_law_283 : decode cL_law 283 = .ok (.iload 5, 2) := by decide +kernel
theorem dL_law_285 : decode cL_law 285 = .ok (.iconst 1, 1) := by decide +kernel
theorem dL_law_286 : decode cL_law 286 = .ok (.iadd, 1) := by decide +kernel
theorem dL_law_287 : decode cL_law 287 = .ok (.iaload, 1) := by decide +kernel
theorem dL_law_288 : decode cL_law 288 = .ok (.aload_n 0, 1) := by decide +kernel
theorem dL_law_289 : decode cL_law 289 = .ok (.iload 5, 2) := by decide +kernel
theorem dL_law_291 : decode cL_law 291 = .ok (.iconst 2, 1) := by decide +kernel
theorem dL_law_292 : decode cL_law 292 = .ok (.iadd, 1) := by decide +kernel
theorem dL_law_293 : decode cL_law 293 = .ok (.iaload, 1) := by decide +kernel
theorem dL_law_294 : decode cL_law 294 = .ok (.aload_n 0, 1) := by decide +kernel
theorem dL_law_295 : decode cL_law 295 = .ok (.iload 5, 2) := by decide +kernel
theorem dL_law_297 : decode cL_law 297 = .ok (.iconst 3, 1) := by decide +kernel
theorem dL_law_298 : decode cL_law 298 = .ok (.iadd, 1) := by decide +kernel
theorem dL_law_299 : decode cL_law 299 = .ok (.iaload, 1) := by decide +kernel
theorem dL_law_300 : decode cL_law 300 = .ok (.aload_n 0, 1) := by decide +kernel
theorem dL_law_301 : decode cL_law 301 = .ok (.iload 5, 2) := by decide +kernel
theorem dL_law_303 : decode cL_law 303 = .ok (.iconst 4, 1) := by decide +kernel
theorem dL_law_304 : decode cL_law 304 = .ok (.iadd, 1) := by decide +kernel
theorem dL_law_305 : decode cL_law 305 = .ok (.iaload, 1) := by decide +kernel
theorem dL_law_306 : decode cL_law 306 = .ok (.aload_n 0, 1) := by decide +kernel
theorem dL_law_307 : decode cL_law 307 = .ok (.iload 5, 2) := by decide +kernel
theorem dL_law_309 : decode cL_law 309 = .ok (.iconst 5, 1) := by decide +kernel
theorem dL_law_310 : decode cL_law 310 = .ok (.iadd, 1) := by decide +kernel
theorem dL_law_311 : decode cL_law 311 = .ok (.iaload, 1) := by decide +kernel
theorem dL_law_312 : decode cL_law 312 = .ok (.invokevirtual 116, 3) := by decide +kernel
theorem dL_law_315 : decode cL_law 315 = .ok (.istore 7, 2) := by decide +kernel
theorem dL_law_317 : decode cL_law 317 = .ok (.aload_n 2, 1) := by decide +kernel
theorem dL_law_318 : decode cL_law 318 = .ok (.invokevirtual 110, 3) := by decide +kernel
theorem dL_law_321 : decode cL_law 321 = .ok (.iload 6, 2) := by decide +kernel
theorem dL_law_323 : decode cL_law 323 = .ok (.if_icmp .eq 5, 3) := by decide +kernel
theorem dL_law_326 : decode cL_law 326 = .ok (.iconst 0, 1) := by decide +kernel
theorem dL_law_327 : decode cL_law 327 = .ok (.ireturn, 1) := by decide +kernel
theorem dL_law_328 : decode cL_law 328 = .ok (.iload 6, 2) := by decide +kernel
theorem dL_law_330 : decode cL_law 330 = .ok (.ifCond .ne 15, 3) := by decide +kernel
theorem dL_law_333 : decode cL_law 333 = .ok (.aload_n 3, 1) := by decide +kernel
theorem dL_law_334 : decode cL_law 334 = .ok (.iconst 0, 1) := by decide +kernel
theorem dL_law_335 : decode cL_law 335 = .ok (.laload, 1) := by decide +kernel
theorem dL_law_336 : decode cL_law 336 = .ok (.iload 7, 2) := by decide +kernel
theorem dL_law_338 : decode cL_law 338 = .ok (.i2l, 1) := by decide +kernel
theorem dL_law_339 : decode cL_law 339 = .ok (.lcmp, 1) := by decide +kernel
theorem dL_law_340 : decode cL_law 340 = .ok (.ifCond .eq 5, 3) := by decide +kernel
theorem dL_law_343 : decode cL_law 343 = .ok (.iconst 0, 1) := by decide +kernel
theorem dL_law_344 : decode cL_law 344 = .ok (.ireturn, 1) := by decide +kernel
theorem dL_law_345 : decode cL_law 345 = .ok (.goto 1657, 3) := by decide +kernel
theorem dL_law_348 : decode cL_law 348 = .ok (.aload_n 1, 1) := by decide +kernel
theorem dL_law_349 : decode cL_law 349 = .ok (.aload_n 0, 1) := by decide +kernel
theorem dL_law_350 : decode cL_law 350 = .ok (.iload 5, 2) := by decide +kernel
theorem dL_law_352 : decode cL_law 352 = .ok (.iconst 1, 1) := by decide +kernel
theorem dL_law_353 : decode cL_law 353 = .ok (.iadd, 1) := by decide +kernel
theorem dL_law_354 : decode cL_law 354 = .ok (.iaload, 1) := by decide +kernel
theorem dL_law_355 : decode cL_law 355 = .ok (.aload_n 0, 1) := by decide +kernel
theorem dL_law_356 : decode cL_law 356 = .ok (.iload 5, 2) := by decide +kernel
theorem dL_law_358 : decode cL_law 358 = .ok (.iconst 2, 1) := by decide +kernel
theorem dL_law_359 : decode cL_law 359 = .ok (.iadd, 1) := by decide +kernel
theorem dL_law_360 : decode cL_law 360 = .ok (.iaload, 1) := by decide +kernel
theorem dL_law_361 : decode cL_law 361 = .ok (.aload_n 0, 1) := by decide +kernel
theorem dL_law_362 : decode cL_law 362 = .ok (.iload 5, 2) := by decide +kernel
theorem dL_law_364 : decode cL_law 364 = .ok (.iconst 3, 1) := by decide +kernel
theorem dL_law_365 : decode cL_law 365 = .ok (.iadd, 1) := by decide +kernel
theorem dL_law_366 : decode cL_law 366 = .ok (.iaload, 1) := by decide +kernel
theorem dL_law_367 : decode cL_law 367 = .ok (.aload_n 0, 1) := by decide +kernel
theorem dL_law_368 : decode cL_law 368 = .ok (.iload 5, 2) := by decide +kernel
theorem dL_law_370 : decode cL_law 370 = .ok (.iconst 4, 1) := by decide +kernel
theorem dL_law_371 : decode cL_law 371 = .ok (.iadd, 1) := by decide +kernel
theorem dL_law_372 : decode cL_law 372 = .ok (.iaload, 1) := by decide +kernel
theorem dL_law_373 : decode cL_law 373 = .ok (.aload_n 3, 1) := by decide +kernel
theorem dL_law_374 : decode cL_law 374 = .ok (.invokestatic 117, 3) := by decide +kernel
theorem dL_law_377 : decode cL_law 377 = .ok (.istore 6, 2) := by decide +kernel
theorem dL_law_379 : decode cL_law 379 = .ok (.aload_n 2, 1) := by decide +kernel
theorem dL_law_380 : decode cL_law 380 = .ok (.aload_n 0, 1) := by decide +kernel
theorem dL_law_381 : decode cL_law 381 = .ok (.iload 5, 2) := by decide +kernel
theorem dL_law_383 : decode cL_law 383 = .ok (.iconst 1, 1) := by decide +kernel
theorem dL_law_384 : decode cL_law 384 = .ok (.iadd, 1) := by decide +kernel
theorem dL_law_385 : decode cL_law 385 = .ok (.iaload, 1) := by decide +kernel
theorem dL_law_386 : decode cL_law 386 = .ok (.aload_n 0, 1) := by decide +kernel
theorem dL_law_387 : decode cL_law 387 = .ok (.iload 5, 2) := by decide +kernel
theorem dL_law_389 : decode cL_law 389 = .ok (.iconst 2, 1) := by decide +kernel
theorem dL_law_390 : decode cL_law 390 = .ok (.iadd, 1) := by decide +kernel
theorem dL_law_391 : decode cL_law 391 = .ok (.iaload, 1) := by decide +kernel
theorem dL_law_392 : decode cL_law 392 = .ok (.aload_n 0, 1) := by decide +kernel
theorem dL_law_393 : decode cL_law 393 = .ok (.iload 5, 2) := by decide +kernel
theorem dL_law_395 : decode cL_law 395 = .ok (.iconst 3, 1) := by decide +kernel
theorem dL_law_396 : decode cL_law 396 = .ok (.iadd, 1) := by decide +kernel
theorem dL_law_397 : decode cL_law 397 = .ok (.iaload, 1) := by decide +kernel
theorem dL_law_398 : decode cL_law 398 = .ok (.aload_n 0, 1) := by decide +kernel
theorem dL_law_399 : decode cL_law 399 = .ok (.iload 5, 2) := by decide +kernel
theorem dL_law_401 : decode cL_law 401 = .ok (.iconst 4, 1) := by decide +kernel
theorem dL_law_402 : decode cL_law 402 = .ok (.iadd, 1) := by decide +kernel
theorem dL_law_403 : decode cL_law 403 = .ok (.iaload, 1) := by decide +kernel
theorem dL_law_404 : decode cL_law 404 = .ok (.invokevirtual 120, 3) := by decide +kernel
theorem dL_law_407 : decode cL_law 407 = .ok (.istore 7, 2) := by decide +kernel
theorem dL_law_409 : decode cL_law 409 = .ok (.aload_n 2, 1) := by decide +kernel
theorem dL_law_410 : decode cL_law 410 = .ok (.invokevirtual 110, 3) := by decide +kernel
theorem dL_law_413 : decode cL_law 413 = .ok (.iload 6, 2) := by decide +kernel
theorem dL_law_415 : decode cL_law 415 = .ok (.if_icmp .eq 5, 3) := by decide +kernel
theorem dL_law_418 : decode cL_law 418 = .ok (.iconst 0, 1) := by decide +kernel
theorem dL_law_419 : decode cL_law 419 = .ok (.ireturn, 1) := by decide +kernel
theorem dL_law_420 : decode cL_law 420 = .ok (.iload 6, 2) := by decide +kernel
theorem dL_law_422 : decode cL_law 422 = .ok (.ifCond .ne 15, 3) := by decide +kernel
theorem dL_law_425 : decode cL_law 425 = .ok (.aload_n 3, 1) := by decide +kernel
theorem dL_law_426 : decode cL_law 426 = .ok (.iconst 0, 1) := by decide +kernel
theorem dL_law_427 : decode cL_law 427 = .ok (.laload, 1) := by decide +kernel
theorem dL_law_428 : decode cL_law 428 = .ok (.iload 7, 2) := by decide +kernel
theorem dL_law_430 : decode cL_law 430 = .ok (.i2l, 1) := by decide +kernel
theorem dL_law_431 : decode cL_law 431 = .ok (.lcmp, 1) := by decide +kernel
theorem dL_law_432 : decode cL_law 432 = .ok (.ifCond .eq 5, 3) := by decide +kernel
theorem dL_law_435 : decode cL_law 435 = .ok (.iconst 0, 1) := by decide +kernel
theorem dL_law_436 : decode cL_law 436 = .ok (.ireturn, 1) := by decide +kernel
theorem dL_law_437 : decode cL_law 437 = .ok (.goto 1565, 3) := by decide +kernel
theorem dL_law_440 : decode cL_law 440 = .ok (.aload_n 1, 1) := by decide +kernel
theorem dL_law_441 : decode cL_law 441 = .ok (.aload_n 0, 1) := by decide +kernel
theorem dL_law_442 : decode cL_law 442 = .ok (.iload 5, 2) := by decide +kernel
theorem dL_law_444 : decode cL_law 444 = .ok (.iconst 1, 1) := by decide +kernel
theorem dL_law_445 : decode cL_law 445 = .ok (.iadd, 1) := by decide +kernel
theorem dL_law_446 : decode cL_law 446 = .ok (.iaload, 1) := by decide +kernel
theorem dL_law_447 : decode cL_law 447 = .ok (.aload_n 0, 1) := by decide +kernel
theorem dL_law_448 : decode cL_law 448 = .ok (.iload 5, 2) := by decide +kernel
theorem dL_law_450 : decode cL_law 450 = .ok (.iconst 2, 1) := by decide +kernel
theorem dL_law_451 : decode cL_law 451 = .ok (.iadd, 1) := by decide +kernel
theorem dL_law_452 : decode cL_law 452 = .ok (.iaload, 1) := by decide +kernel
theorem dL_law_453 : decode cL_law 453 = .ok (.ifCond .eq 7, 3) := by decide +kernel
theorem dL_law_456 : decode cL_law 456 = .ok (.iconst 1, 1) := by decide +kernel
theorem dL_law_457 : decode cL_law 457 = .ok (.goto 4, 3) := by decide +kernel
theorem dL_law_460 : decode cL_law 460 = .ok (.iconst 0, 1) := by decide +kernel
theorem dL_law_461 : decode cL_law 461 = .ok (.aload_n 3, 1) := by decide +kernel
theorem dL_law_462 : decode cL_law 462 = .ok (.invokestatic 121, 3) := by decide +kernel
theorem dL_law_465 : decode cL_law 465 = .ok (.istore 6, 2) := by decide +kernel
theorem dL_law_467 : decode cL_law 467 = .ok (.aload_n 2, 1) := by decide +kernel
theorem dL_law_468 : decode cL_law 468 = .ok (.aload_n 0, 1) := by decide +kernel
theorem dL_law_469 : decode cL_law 469 = .ok (.iload 5, 2) := by decide +kernel
theorem dL_law_471 : decode cL_law 471 = .ok (.iconst 1, 1) := by decide +kernel
theorem dL_law_472 : decode cL_law 472 = .ok (.iadd, 1) := by decide +kernel
theorem dL_law_473 : decode cL_law 473 = .ok (.iaload, 1) := by decide +kernel
theorem dL_law_474 : decode cL_law 474 = .ok (.aload_n 0, 1) := by decide +kernel
theorem dL_law_475 : decode cL_law 475 = .ok (.iload 5, 2) := by decide +kernel
theorem dL_law_477 : decode cL_law 477 = .ok (.iconst 2, 1) := by decide +kernel
theorem dL_law_478 : decode cL_law 478 = .ok (.iadd, 1) := by decide +kernel
theorem dL_law_479 : decode cL_law 479 = .ok (.iaload, 1) := by decide +kernel
theorem dL_law_480 : decode cL_law 480 = .ok (.ifCond .eq 7, 3) := by decide +kernel
theorem dL_law_483 : decode cL_law 483 = .ok (.iconst 1, 1) := by decide +kernel
theorem dL_law_484 : decode cL_law 484 = .ok (.goto 4, 3) := by decide +kernel
theorem dL_law_487 : decode cL_law 487 = .ok (.iconst 0, 1) := by decide +kernel
theorem dL_law_488 : decode cL_law 488 = .ok (.invokevirtual 124, 3) := by decide +kernel
theorem dL_law_491 : decode cL_law 491 = .ok (.istore 7, 2) := by decide +kernel
theorem dL_law_493 : decode cL_law 493 = .ok (.aload_n 2, 1) := by decide +kernel
theorem dL_law_494 : decode cL_law 494 = .ok (.invokevirtual 110, 3) := by decide +kernel
theorem dL_law_497 : decode cL_law 497 = .ok (.iload 6, 2) := by decide +kernel
theorem dL_law_499 : decode cL_law 499 = .ok (.if_icmp .eq 5, 3) := by decide +kernel
theorem dL_law_502 : decode cL_law 502 = .ok (.iconst 0, 1) := by decide +kernel
theorem dL_law_503 : decode cL_law 503 = .ok (.ireturn, 1) := by decide +kernel
theorem dL_law_504 : decode cL_law 504 = .ok (.iload 6, 2) := by decide +kernel
theorem dL_law_506 : decode cL_law 506 = .ok (.ifCond .ne 22, 3) := by decide +kernel
theorem dL_law_509 : decode cL_law 509 = .ok (.aload_n 3, 1) := by decide +kernel
theorem dL_law_510 : decode cL_law 510 = .ok (.iconst 0, 1) := by decide +kernel
theorem dL_law_511 : decode cL_law 511 = .ok (.laload, 1) := by decide +kernel
theorem dL_law_512 : decode cL_law 512 = .ok (.iload 7, 2) := by decide +kernel
theorem dL_law_514 : decode cL_law 514 = .ok (.ifCond .eq 7, 3) := by decide +kernel
theorem dL_law_517 : decode cL_law 517 = .ok (.lconst 1, 1) := by decide +kernel
theorem dL_law_518 : decode cL_law 518 = .ok (.goto 4, 3) := by decide +kernel
theorem dL_law_521 : decode cL_law 521 = .ok (.lconst 0, 1) := by decide +kernel
theorem dL_law_522 : decode cL_law 522 = .ok (.lcmp, 1) := by decide +kernel
theorem dL_law_523 : decode cL_law 523 = .ok (.ifCond .eq 5, 3) := by decide +kernel
theorem dL_law_526 : decode cL_law 526 = .ok (.iconst 0, 1) := by decide +kernel
theorem dL_law_527 : decode cL_law 527 = .ok (.ireturn, 1) := by decide +kernel
theorem dL_law_528 : decode cL_law 528 = .ok (.goto 1474, 3) := by decide +kernel
theorem dL_law_531 : decode cL_law 531 = .ok (.aload_n 1, 1) := by decide +kernel
theorem dL_law_532 : decode cL_law 532 = .ok (.aload_n 0, 1) := by decide +kernel
theorem dL_law_533 : decode cL_law 533 = .ok (.iload 5, 2) := by decide +kernel
theorem dL_law_535 : decode cL_law 535 = .ok (.iconst 1, 1) := by decide +kernel
theorem dL_law_536 : decode cL_law 536 = .ok (.iadd, 1) := by decide +kernel
theorem dL_law_537 : decode cL_law 537 = .ok (.iaload, 1) := by decide +kernel
theorem dL_law_538 : decode cL_law 538 = .ok (.aload_n 0, 1) := by decide +kernel
theorem dL_law_539 : decode cL_law 539 = .ok (.iload 5, 2) := by decide +kernel
theorem dL_law_541 : decode cL_law 541 = .ok (.iconst 2, 1) := by decide +kernel
theorem dL_law_542 : decode cL_law 542 = .ok (.iadd, 1) := by decide +kernel
theorem dL_law_543 : decode cL_law 543 = .ok (.iaload, 1) := by decide +kernel
theorem dL_law_544 : decode cL_law 544 = .ok (.aload_n 3, 1) := by decide +kernel
theorem dL_law_545 : decode cL_law 545 = .ok (.invokestatic 125, 3) := by decide +kernel
theorem dL_law_548 : decode cL_law 548 = .ok (.istore 6, 2) := by decide +kernel
theorem dL_law_550 : decode cL_law 550 = .ok (.aload_n 2, 1) := by decide +kernel
theorem dL_law_551 : decode cL_law 551 = .ok (.aload_n 0, 1) := by decide +kernel
theorem dL_law_552 : decode cL_law 552 = .ok (.iload 5, 2) := by decide +kernel
theorem dL_law_554 : decode cL_law 554 = .ok (.iconst 1, 1) := by decide +kernel
theorem dL_law_555 : decode cL_law 555 = .ok (.iadd, 1) := by decide +kernel
theorem dL_law_556 : decode cL_law 556 = .ok (.iaload, 1) := by decide +kernel
theorem dL_law_557 : decode cL_law 557 = .ok (.aload_n 0, 1) := by decide +kernel
theorem dL_law_558 : decode cL_law 558 = .ok (.iload 5, 2) := by decide +kernel
theorem dL_law_560 : decode cL_law 560 = .ok (.iconst 2, 1) := by decide +kernel
theorem dL_law_561 : decode cL_law 561 = .ok (.iadd, 1) := by decide +kernel
theorem dL_law_562 : decode cL_law 562 = .ok (.iaload, 1) := by decide +kernel
theorem dL_law_563 : decode cL_law 563 = .ok (.invokevirtual 127, 3) := by decide +kernel
theorem dL_law_566 : decode cL_law 566 = .ok (.istore 7, 2) := by decide +kernel
theorem dL_law_568 : decode cL_law 568 = .ok (.aload_n 2, 1) := by decide +kernel
theorem dL_law_569 : decode cL_law 569 = .ok (.invokevirtual 110, 3) := by decide +kernel
theorem dL_law_572 : decode cL_law 572 = .ok (.iload 6, 2) := by decide +kernel
theorem dL_law_574 : decode cL_law 574 = .ok (.if_icmp .eq 5, 3) := by decide +kernel
theorem dL_law_577 : decode cL_law 577 = .ok (.iconst 0, 1) := by decide +kernel
theorem dL_law_578 : decode cL_law 578 = .ok (.ireturn, 1) := by decide +kernel
theorem dL_law_579 : decode cL_law 579 = .ok (.iload 6, 2) := by decide +kernel
theorem dL_law_581 : decode cL_law 581 = .ok (.ifCond .ne 15, 3) := by decide +kernel
theorem dL_law_584 : decode cL_law 584 = .ok (.aload_n 3, 1) := by decide +kernel
theorem dL_law_585 : decode cL_law 585 = .ok (.iconst 0, 1) := by decide +kernel
theorem dL_law_586 : decode cL_law 586 = .ok (.laload, 1) := by decide +kernel
theorem dL_law_587 : decode cL_law 587 = .ok (.iload 7, 2) := by decide +kernel
theorem dL_law_589 : decode cL_law 589 = .ok (.i2l, 1) := by decide +kernel
theorem dL_law_590 : decode cL_law 590 = .ok (.lcmp, 1) := by decide +kernel
theorem dL_law_591 : decode cL_law 591 = .ok (.ifCond .eq 5, 3) := by decide +kernel
theorem dL_law_594 : decode cL_law 594 = .ok (.iconst 0, 1) := by decide +kernel
theorem dL_law_595 : decode cL_law 595 = .ok (.ireturn, 1) := by decide +kernel
theorem dL_law_596 : decode cL_law 596 = .ok (.goto 1406, 3) := by decide +kernel
theorem dL_law_599 : decode cL_law 599 = .ok (.aload_n 1, 1) := by decide +kernel
theorem dL_law_600 : decode cL_law 600 = .ok (.aload_n 0, 1) := by decide +kernel
theorem dL_law_601 : decode cL_law 601 = .ok (.iload 5, 2) := by decide +kernel
theorem dL_law_603 : decode cL_law 603 = .ok (.iconst 1, 1) := by decide +kernel
theorem dL_law_604 : decode cL_law 604 = .ok (.iadd, 1) := by decide +kernel
theorem dL_law_605 : decode cL_law 605 = .ok (.iaload, 1) := by decide +kernel
theorem dL_law_606 : decode cL_law 606 = .ok (.aload_n 0, 1) := by decide +kernel
theorem dL_law_607 : decode cL_law 607 = .ok (.iload 5, 2) := by decide +kernel
theorem dL_law_609 : decode cL_law 609 = .ok (.iconst 2, 1) := by decide +kernel
theorem dL_law_610 : decode cL_law 610 = .ok (.iadd, 1) := by decide +kernel
theorem dL_law_611 : decode cL_law 611 = .ok (.iaload, 1) := by decide +kernel
theorem dL_law_612 : decode cL_law 612 = .ok (.aload_n 3, 1) := by decide +kernel
theorem dL_law_613 : decode cL_law 613 = .ok (.invokestatic 128, 3) := by decide +kernel
theorem dL_law_616 : decode cL_law 616 = .ok (.istore 6, 2) := by decide +kernel
theorem dL_law_618 : decode cL_law 618 = .ok (.aload_n 2, 1) := by decide +kernel
theorem dL_law_619 : decode cL_law 619 = .ok (.aload_n 0, 1) := by decide +kernel
theorem dL_law_620 : decode cL_law 620 = .ok (.iload 5, 2) := by decide +kernel
theorem dL_law_622 : decode cL_law 622 = .ok (.iconst 1, 1) := by decide +kernel
theorem dL_law_623 : decode cL_law 623 = .ok (.iadd, 1) := by decide +kernel
theorem dL_law_624 : decode cL_law 624 = .ok (.iaload, 1) := by decide +kernel
theorem dL_law_625 : decode cL_law 625 = .ok (.aload_n 0, 1) := by decide +kernel
theorem dL_law_626 : decode cL_law 626 = .ok (.iload 5, 2) := by decide +kernel
theorem dL_law_628 : decode cL_law 628 = .ok (.iconst 2, 1) := by decide +kernel
theorem dL_law_629 : decode cL_law 629 = .ok (.iadd, 1) := by decide +kernel
theorem dL_law_630 : decode cL_law 630 = .ok (.iaload, 1) := by decide +kernel
theorem dL_law_631 : decode cL_law 631 = .ok (.invokevirtual 130, 3) := by decide +kernel
theorem dL_law_634 : decode cL_law 634 = .ok (.istore 7, 2) := by decide +kernel
theorem dL_law_636 : decode cL_law 636 = .ok (.aload_n 2, 1) := by decide +kernel
theorem dL_law_637 : decode cL_law 637 = .ok (.invokevirtual 110, 3) := by decide +kernel
theorem dL_law_640 : decode cL_law 640 = .ok (.iload 6, 2) := by decide +kernel
theorem dL_law_642 : decode cL_law 642 = .ok (.if_icmp .eq 5, 3) := by decide +kernel
theorem dL_law_645 : decode cL_law 645 = .ok (.iconst 0, 1) := by decide +kernel
theorem dL_law_646 : decode cL_law 646 = .ok (.ireturn, 1) := by decide +kernel
theorem dL_law_647 : decode cL_law 647 = .ok (.iload 6, 2) := by decide +kernel
theorem dL_law_649 : decode cL_law 649 = .ok (.ifCond .ne 15, 3) := by decide +kernel
theorem dL_law_652 : decode cL_law 652 = .ok (.aload_n 3, 1) := by decide +kernel
theorem dL_law_653 : decode cL_law 653 = .ok (.iconst 0, 1) := by decide +kernel
theorem dL_law_654 : decode cL_law 654 = .ok (.laload, 1) := by decide +kernel
theorem dL_law_655 : decode cL_law 655 = .ok (.iload 7, 2) := by decide +kernel
theorem dL_law_657 : decode cL_law 657 = .ok (.i2l, 1) := by decide +kernel
theorem dL_law_658 : decode cL_law 658 = .ok (.lcmp, 1) := by decide +kernel
theorem dL_law_659 : decode cL_law 659 = .ok (.ifCond .eq 5, 3) := by decide +kernel
theorem dL_law_662 : decode cL_law 662 = .ok (.iconst 0, 1) := by decide +kernel
theorem dL_law_663 : decode cL_law 663 = .ok (.ireturn, 1) := by decide +kernel
theorem dL_law_664 : decode cL_law 664 = .ok (.goto 1338, 3) := by decide +kernel
theorem dL_law_667 : decode cL_law 667 = .ok (.aload_n 1, 1) := by decide +kernel
theorem dL_law_668 : decode cL_law 668 = .ok (.aload_n 0, 1) := by decide +kernel
theorem dL_law_669 : decode cL_law 669 = .ok (.iload 5, 2) := by decide +kernel
theorem dL_law_671 : decode cL_law 671 = .ok (.iconst 1, 1) := by decide +kernel
theorem dL_law_672 : decode cL_law 672 = .ok (.iadd, 1) := by decide +kernel
theorem dL_law_673 : decode cL_law 673 = .ok (.iaload, 1) := by decide +kernel
theorem dL_law_674 : decode cL_law 674 = .ok (.aload_n 0, 1) := by decide +kernel
theorem dL_law_675 : decode cL_law 675 = .ok (.iload 5, 2) := by decide +kernel
theorem dL_law_677 : decode cL_law 677 = .ok (.iconst 2, 1) := by decide +kernel
theorem dL_law_678 : decode cL_law 678 = .ok (.iadd, 1) := by decide +kernel
theorem dL_law_679 : decode cL_law 679 = .ok (.iaload, 1) := by decide +kernel
theorem dL_law_680 : decode cL_law 680 = .ok (.aload_n 0, 1) := by decide +kernel
theorem dL_law_681 : decode cL_law 681 = .ok (.iload 5, 2) := by decide +kernel
theorem dL_law_683 : decode cL_law 683 = .ok (.iconst 3, 1) := by decide +kernel
theorem dL_law_684 : decode cL_law 684 = .ok (.iadd, 1) := by decide +kernel
theorem dL_law_685 : decode cL_law 685 = .ok (.iaload, 1) := by decide +kernel
theorem dL_law_686 : decode cL_law 686 = .ok (.aload_n 3, 1) := by decide +kernel
theorem dL_law_687 : decode cL_law 687 = .ok (.invokestatic 131, 3) := by decide +kernel
theorem dL_law_690 : decode cL_law 690 = .ok (.istore 6, 2) := by decide +kernel
theorem dL_law_692 : decode cL_law 692 = .ok (.aload_n 2, 1) := by decide +kernel
theorem dL_law_693 : decode cL_law 693 = .ok (.aload_n 0, 1) := by decide +kernel
theorem dL_law_694 : decode cL_law 694 = .ok (.iload 5, 2) := by decide +kernel
theorem dL_law_696 : decode cL_law 696 = .ok (.iconst 1, 1) := by decide +kernel
theorem dL_law_697 : decode cL_law 697 = .ok (.iadd, 1) := by decide +kernel
theorem dL_law_698 : decode cL_law 698 = .ok (.iaload, 1) := by decide +kernel
theorem dL_law_699 : decode cL_law 699 = .ok (.aload_n 0, 1) := by decide +kernel
theorem dL_law_700 : decode cL_law 700 = .ok (.iload 5, 2) := by decide +kernel
theorem dL_law_702 : decode cL_law 702 = .ok (.iconst 2, 1) := by decide +kernel
theorem dL_law_703 : decode cL_law 703 = .ok (.iadd, 1) := by decide +kernel
theorem dL_law_704 : decode cL_law 704 = .ok (.iaload, 1) := by decide +kernel
theorem dL_law_705 : decode cL_law 705 = .ok (.aload_n 0, 1) := by decide +kernel
theorem dL_law_706 : decode cL_law 706 = .ok (.iload 5, 2) := by decide +kernel
theorem dL_law_708 : decode cL_law 708 = .ok (.iconst 3, 1) := by decide +kernel
theorem dL_law_709 : decode cL_law 709 = .ok (.iadd, 1) := by decide +kernel
theorem dL_law_710 : decode cL_law 710 = .ok (.iaload, 1) := by decide +kernel
theorem dL_law_711 : decode cL_law 711 = .ok (.invokevirtual 134, 3) := by decide +kernel
theorem dL_law_714 : decode cL_law 714 = .ok (.istore 7, 2) := by decide +kernel
theorem dL_law_716 : decode cL_law 716 = .ok (.aload_n 2, 1) := by decide +kernel
theorem dL_law_717 : decode cL_law 717 = .ok (.invokevirtual 110, 3) := by decide +kernel
theorem dL_law_720 : decode cL_law 720 = .ok (.iload 6, 2) := by decide +kernel
theorem dL_law_722 : decode cL_law 722 = .ok (.if_icmp .eq 5, 3) := by decide +kernel
theorem dL_law_725 : decode cL_law 725 = .ok (.iconst 0, 1) := by decide +kernel
theorem dL_law_726 : decode cL_law 726 = .ok (.ireturn, 1) := by decide +kernel
theorem dL_law_727 : decode cL_law 727 = .ok (.iload 6, 2) := by decide +kernel
theorem dL_law_729 : decode cL_law 729 = .ok (.ifCond .ne 15, 3) := by decide +kernel
theorem dL_law_732 : decode cL_law 732 = .ok (.aload_n 3, 1) := by decide +kernel
theorem dL_law_733 : decode cL_law 733 = .ok (.iconst 0, 1) := by decide +kernel
theorem dL_law_734 : decode cL_law 734 = .ok (.laload, 1) := by decide +kernel
theorem dL_law_735 : decode cL_law 735 = .ok (.iload 7, 2) := by decide +kernel
theorem dL_law_737 : decode cL_law 737 = .ok (.i2l, 1) := by decide +kernel
theorem dL_law_738 : decode cL_law 738 = .ok (.lcmp, 1) := by decide +kernel
theorem dL_law_739 : decode cL_law 739 = .ok (.ifCond .eq 5, 3) := by decide +kernel
theorem dL_law_742 : decode cL_law 742 = .ok (.iconst 0, 1) := by decide +kernel
theorem dL_law_743 : decode cL_law 743 = .ok (.ireturn, 1) := by decide +kernel
theorem dL_law_744 : decode cL_law 744 = .ok (.goto 1258, 3) := by decide +kernel
theorem dL_law_747 : decode cL_law 747 = .ok (.aload_n 1, 1) := by decide +kernel
theorem dL_law_748 : decode cL_law 748 = .ok (.aload_n 0, 1) := by decide +kernel
theorem dL_law_749 : decode cL_law 749 = .ok (.iload 5, 2) := by decide +kernel
theorem dL_law_751 : decode cL_law 751 = .ok (.iconst 1, 1) := by decide +kernel
theorem dL_law_752 : decode cL_law 752 = .ok (.iadd, 1) := by decide +kernel
theorem dL_law_753 : decode cL_law 753 = .ok (.iaload, 1) := by decide +kernel
theorem dL_law_754 : decode cL_law 754 = .ok (.aload_n 3, 1) := by decide +kernel
theorem dL_law_755 : decode cL_law 755 = .ok (.invokestatic 135, 3) := by decide +kernel
theorem dL_law_758 : decode cL_law 758 = .ok (.istore 6, 2) := by decide +kernel
theorem dL_law_760 : decode cL_law 760 = .ok (.aload_n 2, 1) := by decide +kernel
theorem dL_law_761 : decode cL_law 761 = .ok (.aload_n 0, 1) := by decide +kernel
theorem dL_law_762 : decode cL_law 762 = .ok (.iload 5, 2) := by decide +kernel
theorem dL_law_764 : decode cL_law 764 = .ok (.iconst 1, 1) := by decide +kernel
theorem dL_law_765 : decode cL_law 765 = .ok (.iadd, 1) := by decide +kernel
theorem dL_law_766 : decode cL_law 766 = .ok (.iaload, 1) := by decide +kernel
theorem dL_law_767 : decode cL_law 767 = .ok (.invokevirtual 138, 3) := by decide +kernel
theorem dL_law_770 : decode cL_law 770 = .ok (.istore 7, 2) := by decide +kernel
theorem dL_law_772 : decode cL_law 772 = .ok (.aload_n 2, 1) := by decide +kernel
theorem dL_law_773 : decode cL_law 773 = .ok (.invokevirtual 110, 3) := by decide +kernel
theorem dL_law_776 : decode cL_law 776 = .ok (.iload 6, 2) := by decide +kernel
theorem dL_law_778 : decode cL_law 778 = .ok (.if_icmp .eq 5, 3) := by decide +kernel
theorem dL_law_781 : decode cL_law 781 = .ok (.iconst 0, 1) := by decide +kernel
theorem dL_law_782 : decode cL_law 782 = .ok (.ireturn, 1) := by decide +kernel
theorem dL_law_783 : decode cL_law 783 = .ok (.iload 6, 2) := by decide +kernel
theorem dL_law_785 : decode cL_law 785 = .ok (.ifCond .ne 15, 3) := by decide +kernel
theorem dL_law_788 : decode cL_law 788 = .ok (.aload_n 3, 1) := by decide +kernel
theorem dL_law_789 : decode cL_law 789 = .ok (.iconst 0, 1) := by decide +kernel
theorem dL_law_790 : decode cL_law 790 = .ok (.laload, 1) := by decide +kernel
theorem dL_law_791 : decode cL_law 791 = .ok (.iload 7, 2) := by decide +kernel
theorem dL_law_793 : decode cL_law 793 = .ok (.i2l, 1) := by decide +kernel
theorem dL_law_794 : decode cL_law 794 = .ok (.lcmp, 1) := by decide +kernel
theorem dL_law_795 : decode cL_law 795 = .ok (.ifCond .eq 5, 3) := by decide +kernel
theorem dL_law_798 : decode cL_law 798 = .ok (.iconst 0, 1) := by decide +kernel
theorem dL_law_799 : decode cL_law 799 = .ok (.ireturn, 1) := by decide +kernel
theorem dL_law_800 : decode cL_law 800 = .ok (.goto 1202, 3) := by decide +kernel
theorem dL_law_803 : decode cL_law 803 = .ok (.aload_n 1, 1) := by decide +kernel
theorem dL_law_804 : decode cL_law 804 = .ok (.aload_n 0, 1) := by decide +kernel
theorem dL_law_805 : decode cL_law 805 = .ok (.iload 5, 2) := by decide +kernel
theorem dL_law_807 : decode cL_law 807 = .ok (.iconst 1, 1) := by decide +kernel
theorem dL_law_808 : decode cL_law 808 = .ok (.iadd, 1) := by decide +kernel
theorem dL_law_809 : decode cL_law 809 = .ok (.iaload, 1) := by decide +kernel
theorem dL_law_810 : decode cL_law 810 = .ok (.aload_n 0, 1) := by decide +kernel
theorem dL_law_811 : decode cL_law 811 = .ok (.iload 5, 2) := by decide +kernel
theorem dL_law_813 : decode cL_law 813 = .ok (.iconst 2, 1) := by decide +kernel
theorem dL_law_814 : decode cL_law 814 = .ok (.iadd, 1) := by decide +kernel
theorem dL_law_815 : decode cL_law 815 = .ok (.iaload, 1) := by decide +kernel
theorem dL_law_816 : decode cL_law 816 = .ok (.aload_n 0, 1) := by decide +kernel
theorem dL_law_817 : decode cL_law 817 = .ok (.iload 5, 2) := by decide +kernel
theorem dL_law_819 : decode cL_law 819 = .ok (.iconst 3, 1) := by decide +kernel
theorem dL_law_820 : decode cL_law 820 = .ok (.iadd, 1) := by decide +kernel
theorem dL_law_821 : decode cL_law 821 = .ok (.iaload, 1) := by decide +kernel
theorem dL_law_822 : decode cL_law 822 = .ok (.aload_n 3, 1) := by decide +kernel
theorem dL_law_823 : decode cL_law 823 = .ok (.invokestatic 139, 3) := by decide +kernel
theorem dL_law_826 : decode cL_law 826 = .ok (.istore 6, 2) := by decide +kernel
theorem dL_law_828 : decode cL_law 828 = .ok (.aload_n 2, 1) := by decide +kernel
theorem dL_law_829 : decode cL_law 829 = .ok (.aload_n 0, 1) := by decide +kernel
theorem dL_law_830 : decode cL_law 830 = .ok (.iload 5, 2) := by decide +kernel
theorem dL_law_832 : decode cL_law 832 = .ok (.iconst 1, 1) := by decide +kernel
theorem dL_law_833 : decode cL_law 833 = .ok (.iadd, 1) := by decide +kernel
theorem dL_law_834 : decode cL_law 834 = .ok (.iaload, 1) := by decide +kernel
theorem dL_law_835 : decode cL_law 835 = .ok (.aload_n 0, 1) := by decide +kernel
theorem dL_law_836 : decode cL_law 836 = .ok (.iload 5, 2) := by decide +kernel
theorem dL_law_838 : decode cL_law 838 = .ok (.iconst 2, 1) := by decide +kernel
theorem dL_law_839 : decode cL_law 839 = .ok (.iadd, 1) := by decide +kernel
theorem dL_law_840 : decode cL_law 840 = .ok (.iaload, 1) := by decide +kernel
theorem dL_law_841 : decode cL_law 841 = .ok (.aload_n 0, 1) := by decide +kernel
theorem dL_law_842 : decode cL_law 842 = .ok (.iload 5, 2) := by decide +kernel
theorem dL_law_844 : decode cL_law 844 = .ok (.iconst 3, 1) := by decide +kernel
theorem dL_law_845 : decode cL_law 845 = .ok (.iadd, 1) := by decide +kernel
theorem dL_law_846 : decode cL_law 846 = .ok (.iaload, 1) := by decide +kernel
theorem dL_law_847 : decode cL_law 847 = .ok (.invokevirtual 141, 3) := by decide +kernel
theorem dL_law_850 : decode cL_law 850 = .ok (.istore 7, 2) := by decide +kernel
theorem dL_law_852 : decode cL_law 852 = .ok (.aload_n 2, 1) := by decide +kernel
theorem dL_law_853 : decode cL_law 853 = .ok (.invokevirtual 110, 3) := by decide +kernel
theorem dL_law_856 : decode cL_law 856 = .ok (.iload 6, 2) := by decide +kernel
theorem dL_law_858 : decode cL_law 858 = .ok (.if_icmp .eq 5, 3) := by decide +kernel
theorem dL_law_861 : decode cL_law 861 = .ok (.iconst 0, 1) := by decide +kernel
theorem dL_law_862 : decode cL_law 862 = .ok (.ireturn, 1) := by decide +kernel
theorem dL_law_863 : decode cL_law 863 = .ok (.iload 6, 2) := by decide +kernel
theorem dL_law_865 : decode cL_law 865 = .ok (.ifCond .ne 15, 3) := by decide +kernel
theorem dL_law_868 : decode cL_law 868 = .ok (.aload_n 3, 1) := by decide +kernel
theorem dL_law_869 : decode cL_law 869 = .ok (.iconst 0, 1) := by decide +kernel
theorem dL_law_870 : decode cL_law 870 = .ok (.laload, 1) := by decide +kernel
theorem dL_law_871 : decode cL_law 871 = .ok (.iload 7, 2) := by decide +kernel
theorem dL_law_873 : decode cL_law 873 = .ok (.i2l, 1) := by decide +kernel
theorem dL_law_874 : decode cL_law 874 = .ok (.lcmp, 1) := by decide +kernel
theorem dL_law_875 : decode cL_law 875 = .ok (.ifCond .eq 5, 3) := by decide +kernel
theorem dL_law_878 : decode cL_law 878 = .ok (.iconst 0, 1) := by decide +kernel
theorem dL_law_879 : decode cL_law 879 = .ok (.ireturn, 1) := by decide +kernel
theorem dL_law_880 : decode cL_law 880 = .ok (.goto 1122, 3) := by decide +kernel
theorem dL_law_883 : decode cL_law 883 = .ok (.aload_n 1, 1) := by decide +kernel
theorem dL_law_884 : decode cL_law 884 = .ok (.aload_n 3, 1) := by decide +kernel
theorem dL_law_885 : decode cL_law 885 = .ok (.invokestatic 142, 3) := by decide +kernel
theorem dL_law_888 : decode cL_law 888 = .ok (.istore 6, 2) := by decide +kernel
theorem dL_law_890 : decode cL_law 890 = .ok (.aload_n 2, 1) := by decide +kernel
theorem dL_law_891 : decode cL_law 891 = .ok (.invokevirtual 145, 3) := by decide +kernel
theorem dL_law_894 : decode cL_law 894 = .ok (.istore 7, 2) := by decide +kernel
theorem dL_law_896 : decode cL_law 896 = .ok (.aload_n 2, 1) := by decide +kernel
theorem dL_law_897 : decode cL_law 897 = .ok (.invokevirtual 110, 3) := by decide +kernel
theorem dL_law_900 : decode cL_law 900 = .ok (.iload 6, 2) := by decide +kernel
theorem dL_law_902 : decode cL_law 902 = .ok (.if_icmp .eq 5, 3) := by decide +kernel
theorem dL_law_905 : decode cL_law 905 = .ok (.iconst 0, 1) := by decide +kernel
theorem dL_law_906 : decode cL_law 906 = .ok (.ireturn, 1) := by decide +kernel
theorem dL_law_907 : decode cL_law 907 = .ok (.iload 6, 2) := by decide +kernel
theorem dL_law_909 : decode cL_law 909 = .ok (.ifCond .ne 15, 3) := by decide +kernel
theorem dL_law_912 : decode cL_law 912 = .ok (.aload_n 3, 1) := by decide +kernel
theorem dL_law_913 : decode cL_law 913 = .ok (.iconst 0, 1) := by decide +kernel
theorem dL_law_914 : decode cL_law 914 = .ok (.laload, 1) := by decide +kernel
theorem dL_law_915 : decode cL_law 915 = .ok (.iload 7, 2) := by decide +kernel
theorem dL_law_917 : decode cL_law 917 = .ok (.i2l, 1) := by decide +kernel
theorem dL_law_918 : decode cL_law 918 = .ok (.lcmp, 1) := by decide +kernel
theorem dL_law_919 : decode cL_law 919 = .ok (.ifCond .eq 5, 3) := by decide +kernel
theorem dL_law_922 : decode cL_law 922 = .ok (.iconst 0, 1) := by decide +kernel
theorem dL_law_923 : decode cL_law 923 = .ok (.ireturn, 1) := by decide +kernel
theorem dL_law_924 : decode cL_law 924 = .ok (.goto 1078, 3) := by decide +kernel
theorem dL_law_927 : decode cL_law 927 = .ok (.aload_n 1, 1) := by decide +kernel
theorem dL_law_928 : decode cL_law 928 = .ok (.aload_n 3, 1) := by decide +kernel
theorem dL_law_929 : decode cL_law 929 = .ok (.invokestatic 146, 3) := by decide +kernel
theorem dL_law_932 : decode cL_law 932 = .ok (.istore 6, 2) := by decide +kernel
theorem dL_law_934 : decode cL_law 934 = .ok (.aload_n 2, 1) := by decide +kernel
theorem dL_law_935 : decode cL_law 935 = .ok (.invokevirtual 148, 3) := by decide +kernel
theorem dL_law_938 : decode cL_law 938 = .ok (.istore 7, 2) := by decide +kernel
theorem dL_law_940 : decode cL_law 940 = .ok (.aload_n 2, 1) := by decide +kernel
theorem dL_law_941 : decode cL_law 941 = .ok (.invokevirtual 110, 3) := by decide +kernel
theorem dL_law_944 : decode cL_law 944 = .ok (.iload 6, 2) := by decide +kernel
theorem dL_law_946 : decode cL_law 946 = .ok (.if_icmp .eq 5, 3) := by decide +kernel
theorem dL_law_949 : decode cL_law 949 = .ok (.iconst 0, 1) := by decide +kernel
theorem dL_law_950 : decode cL_law 950 = .ok (.ireturn, 1) := by decide +kernel
theorem dL_law_951 : decode cL_law 951 = .ok (.iload 6, 2) := by decide +kernel
theorem dL_law_953 : decode cL_law 953 = .ok (.ifCond .ne 15, 3) := by decide +kernel
theorem dL_law_956 : decode cL_law 956 = .ok (.aload_n 3, 1) := by decide +kernel
theorem dL_law_957 : decode cL_law 957 = .ok (.iconst 0, 1) := by decide +kernel
theorem dL_law_958 : decode cL_law 958 = .ok (.laload, 1) := by decide +kernel
theorem dL_law_959 : decode cL_law 959 = .ok (.iload 7, 2) := by decide +kernel
theorem dL_law_961 : decode cL_law 961 = .ok (.i2l, 1) := by decide +kernel
theorem dL_law_962 : decode cL_law 962 = .ok (.lcmp, 1) := by decide +kernel
theorem dL_law_963 : decode cL_law 963 = .ok (.ifCond .eq 5, 3) := by decide +kernel
theorem dL_law_966 : decode cL_law 966 = .ok (.iconst 0, 1) := by decide +kernel
theorem dL_law_967 : decode cL_law 967 = .ok (.ireturn, 1) := by decide +kernel
theorem dL_law_968 : decode cL_law 968 = .ok (.goto 1034, 3) := by decide +kernel
theorem dL_law_971 : decode cL_law 971 = .ok (.aload_n 1, 1) := by decide +kernel
theorem dL_law_972 : decode cL_law 972 = .ok (.aload_n 0, 1) := by decide +kernel
theorem dL_law_973 : decode cL_law 973 = .ok (.iload 5, 2) := by decide +kernel
theorem dL_law_975 : decode cL_law 975 = .ok (.iconst 1, 1) := by decide +kernel
theorem dL_law_976 : decode cL_law 976 = .ok (.iadd, 1) := by decide +kernel
theorem dL_law_977 : decode cL_law 977 = .ok (.iaload, 1) := by decide +kernel
theorem dL_law_978 : decode cL_law 978 = .ok (.aload_n 3, 1) := by decide +kernel
theorem dL_law_979 : decode cL_law 979 = .ok (.invokestatic 149, 3) := by decide +kernel
theorem dL_law_982 : decode cL_law 982 = .ok (.istore 6, 2) := by decide +kernel
theorem dL_law_984 : decode cL_law 984 = .ok (.aload_n 2, 1) := by decide +kernel
theorem dL_law_985 : decode cL_law 985 = .ok (.aload_n 0, 1) := by decide +kernel
theorem dL_law_986 : decode cL_law 986 = .ok (.iload 5, 2) := by decide +kernel
theorem dL_law_988 : decode cL_law 988 = .ok (.iconst 1, 1) := by decide +kernel
theorem dL_law_989 : decode cL_law 989 = .ok (.iadd, 1) := by decide +kernel
theorem dL_law_990 : decode cL_law 990 = .ok (.iaload, 1) := by decide +kernel
theorem dL_law_991 : decode cL_law 991 = .ok (.invokevirtual 151, 3) := by decide +kernel
theorem dL_law_994 : decode cL_law 994 = .ok (.istore 7, 2) := by decide +kernel
theorem dL_law_996 : decode cL_law 996 = .ok (.aload_n 2, 1) := by decide +kernel
theorem dL_law_997 : decode cL_law 997 = .ok (.invokevirtual 110, 3) := by decide +kernel
theorem dL_law_1000 : decode cL_law 1000 = .ok (.iload 6, 2) := by decide +kernel
theorem dL_law_1002 : decode cL_law 1002 = .ok (.if_icmp .eq 5, 3) := by decide +kernel
theorem dL_law_1005 : decode cL_law 1005 = .ok (.iconst 0, 1) := by decide +kernel
theorem dL_law_1006 : decode cL_law 1006 = .ok (.ireturn, 1) := by decide +kernel
theorem dL_law_1007 : decode cL_law 1007 = .ok (.iload 6, 2) := by decide +kernel
theorem dL_law_1009 : decode cL_law 1009 = .ok (.ifCond .ne 22, 3) := by decide +kernel
theorem dL_law_1012 : decode cL_law 1012 = .ok (.aload_n 3, 1) := by decide +kernel
theorem dL_law_1013 : decode cL_law 1013 = .ok (.iconst 0, 1) := by decide +kernel
theorem dL_law_1014 : decode cL_law 1014 = .ok (.laload, 1) := by decide +kernel
theorem dL_law_1015 : decode cL_law 1015 = .ok (.iload 7, 2) := by decide +kernel
theorem dL_law_1017 : decode cL_law 1017 = .ok (.ifCond .eq 7, 3) := by decide +kernel
theorem dL_law_1020 : decode cL_law 1020 = .ok (.lconst 1, 1) := by decide +kernel
theorem dL_law_1021 : decode cL_law 1021 = .ok (.goto 4, 3) := by decide +kernel
theorem dL_law_1024 : decode cL_law 1024 = .ok (.lconst 0, 1) := by decide +kernel
theorem dL_law_1025 : decode cL_law 1025 = .ok (.lcmp, 1) := by decide +kernel
theorem dL_law_1026 : decode cL_law 1026 = .ok (.ifCond .eq 5, 3) := by decide +kernel
theorem dL_law_1029 : decode cL_law 1029 = .ok (.iconst 0, 1) := by decide +kernel
theorem dL_law_1030 : decode cL_law 1030 = .ok (.ireturn, 1) := by decide +kernel
theorem dL_law_1031 : decode cL_law 1031 = .ok (.goto 971, 3) := by decide +kernel
theorem dL_law_1034 : decode cL_law 1034 = .ok (.aload_n 1, 1) := by decide +kernel
theorem dL_law_1035 : decode cL_law 1035 = .ok (.aload_n 0, 1) := by decide +kernel
theorem dL_law_1036 : decode cL_law 1036 = .ok (.iload 5, 2) := by decide +kernel
theorem dL_law_1038 : decode cL_law 1038 = .ok (.iconst 1, 1) := by decide +kernel
theorem dL_law_1039 : decode cL_law 1039 = .ok (.iadd, 1) := by decide +kernel
theorem dL_law_1040 : decode cL_law 1040 = .ok (.iaload, 1) := by decide +kernel
theorem dL_law_1041 : decode cL_law 1041 = .ok (.aload_n 3, 1) := by decide +kernel
theorem dL_law_1042 : decode cL_law 1042 = .ok (.invokestatic 152, 3) := by decide +kernel
theorem dL_law_1045 : decode cL_law 1045 = .ok (.istore 6, 2) := by decide +kernel
theorem dL_law_1047 : decode cL_law 1047 = .ok (.aload_n 2, 1) := by decide +kernel
theorem dL_law_1048 : decode cL_law 1048 = .ok (.aload_n 0, 1) := by decide +kernel
theorem dL_law_1049 : decode cL_law 1049 = .ok (.iload 5, 2) := by decide +kernel
theorem dL_law_1051 : decode cL_law 1051 = .ok (.iconst 1, 1) := by decide +kernel
theorem dL_law_1052 : decode cL_law 1052 = .ok (.iadd, 1) := by decide +kernel
theorem dL_law_1053 : decode cL_law 1053 = .ok (.iaload, 1) := by decide +kernel
theorem dL_law_1054 : decode cL_law 1054 = .ok (.invokevirtual 154, 3) := by decide +kernel
theorem dL_law_1057 : decode cL_law 1057 = .ok (.istore 7, 2) := by decide +kernel
theorem dL_law_1059 : decode cL_law 1059 = .ok (.aload_n 2, 1) := by decide +kernel
theorem dL_law_1060 : decode cL_law 1060 = .ok (.invokevirtual 110, 3) := by decide +kernel
theorem dL_law_1063 : decode cL_law 1063 = .ok (.iload 6, 2) := by decide +kernel
theorem dL_law_1065 : decode cL_law 1065 = .ok (.if_icmp .eq 5, 3) := by decide +kernel
theorem dL_law_1068 : decode cL_law 1068 = .ok (.iconst 0, 1) := by decide +kernel
theorem dL_law_1069 : decode cL_law 1069 = .ok (.ireturn, 1) := by decide +kernel
theorem dL_law_1070 : decode cL_law 1070 = .ok (.iload 6, 2) := by decide +kernel
theorem dL_law_1072 : decode cL_law 1072 = .ok (.ifCond .ne 15, 3) := by decide +kernel
theorem dL_law_1075 : decode cL_law 1075 = .ok (.aload_n 3, 1) := by decide +kernel
theorem dL_law_1076 : decode cL_law 1076 = .ok (.iconst 0, 1) := by decide +kernel
theorem dL_law_1077 : decode cL_law 1077 = .ok (.laload, 1) := by decide +kernel
theorem dL_law_1078 : decode cL_law 1078 = .ok (.iload 7, 2) := by decide +kernel
theorem dL_law_1080 : decode cL_law 1080 = .ok (.i2l, 1) := by decide +kernel
theorem dL_law_1081 : decode cL_law 1081 = .ok (.lcmp, 1) := by decide +kernel
theorem dL_law_1082 : decode cL_law 1082 = .ok (.ifCond .eq 5, 3) := by decide +kernel
theorem dL_law_1085 : decode cL_law 1085 = .ok (.iconst 0, 1) := by decide +kernel
theorem dL_law_1086 : decode cL_law 1086 = .ok (.ireturn, 1) := by decide +kernel
theorem dL_law_1087 : decode cL_law 1087 = .ok (.goto 915, 3) := by decide +kernel
theorem dL_law_1090 : decode cL_law 1090 = .ok (.aload_n 1, 1) := by decide +kernel
theorem dL_law_1091 : decode cL_law 1091 = .ok (.aload_n 0, 1) := by decide +kernel
theorem dL_law_1092 : decode cL_law 1092 = .ok (.iload 5, 2) := by decide +kernel
theorem dL_law_1094 : decode cL_law 1094 = .ok (.iconst 1, 1) := by decide +kernel
theorem dL_law_1095 : decode cL_law 1095 = .ok (.iadd, 1) := by decide +kernel
theorem dL_law_1096 : decode cL_law 1096 = .ok (.iaload, 1) := by decide +kernel
theorem dL_law_1097 : decode cL_law 1097 = .ok (.ifCond .eq 7, 3) := by decide +kernel
theorem dL_law_1100 : decode cL_law 1100 = .ok (.iconst 1, 1) := by decide +kernel
theorem dL_law_1101 : decode cL_law 1101 = .ok (.goto 4, 3) := by decide +kernel
theorem dL_law_1104 : decode cL_law 1104 = .ok (.iconst 0, 1) := by decide +kernel
theorem dL_law_1105 : decode cL_law 1105 = .ok (.invokevirtual 155, 3) := by decide +kernel
theorem dL_law_1108 : decode cL_law 1108 = .ok (.aload_n 2, 1) := by decide +kernel
theorem dL_law_1109 : decode cL_law 1109 = .ok (.aload_n 0, 1) := by decide +kernel
theorem dL_law_1110 : decode cL_law 1110 = .ok (.iload 5, 2) := by decide +kernel
theorem dL_law_1112 : decode cL_law 1112 = .ok (.iconst 1, 1) := by decide +kernel
theorem dL_law_1113 : decode cL_law 1113 = .ok (.iadd, 1) := by decide +kernel
theorem dL_law_1114 : decode cL_law 1114 = .ok (.iaload, 1) := by decide +kernel
theorem dL_law_1115 : decode cL_law 1115 = .ok (.ifCond .eq 7, 3) := by decide +kernel
theorem dL_law_1118 : decode cL_law 1118 = .ok (.iconst 1, 1) := by decide +kernel
theorem dL_law_1119 : decode cL_law 1119 = .ok (.goto 4, 3) := by decide +kernel
theorem dL_law_1122 : decode cL_law 1122 = .ok (.iconst 0, 1) := by decide +kernel
theorem dL_law_1123 : decode cL_law 1123 = .ok (.invokevirtual 159, 3) := by decide +kernel
theorem dL_law_1126 : decode cL_law 1126 = .ok (.if_icmp .eq 876, 3) := by decide +kernel
theorem dL_law_1129 : decode cL_law 1129 = .ok (.iconst 0, 1) := by decide +kernel
theorem dL_law_1130 : decode cL_law 1130 = .ok (.ireturn, 1) := by decide +kernel
theorem dL_law_1131 : decode cL_law 1131 = .ok (.aload_n 1, 1) := by decide +kernel
theorem dL_law_1132 : decode cL_law 1132 = .ok (.invokevirtual 160, 3) := by decide +kernel
theorem dL_law_1135 : decode cL_law 1135 = .ok (.aload_n 2, 1) := by decide +kernel
theorem dL_law_1136 : decode cL_law 1136 = .ok (.invokevirtual 163, 3) := by decide +kernel
theorem dL_law_1139 : decode cL_law 1139 = .ok (.if_icmp .eq 863, 3) := by decide +kernel
theorem dL_law_1142 : decode cL_law 1142 = .ok (.iconst 0, 1) := by decide +kernel
theorem dL_law_1143 : decode cL_law 1143 = .ok (.ireturn, 1) := by decide +kernel
theorem dL_law_1144 : decode cL_law 1144 = .ok (.aload_n 1, 1) := by decide +kernel
theorem dL_law_1145 : decode cL_law 1145 = .ok (.aload_n 3, 1) := by decide +kernel
theorem dL_law_1146 : decode cL_law 1146 = .ok (.invokestatic 164, 3) := by decide +kernel
theorem dL_law_1149 : decode cL_law 1149 = .ok (.istore 6, 2) := by decide +kernel
theorem dL_law_1151 : decode cL_law 1151 = .ok (.aload_n 2, 1) := by decide +kernel
theorem dL_law_1152 : decode cL_law 1152 = .ok (.invokevirtual 166, 3) := by decide +kernel
theorem dL_law_1155 : decode cL_law 1155 = .ok (.istore 7, 2) := by decide +kernel
theorem dL_law_1157 : decode cL_law 1157 = .ok (.aload_n 2, 1) := by decide +kernel
theorem dL_law_1158 : decode cL_law 1158 = .ok (.invokevirtual 110, 3) := by decide +kernel
theorem dL_law_1161 : decode cL_law 1161 = .ok (.iload 6, 2) := by decide +kernel
theorem dL_law_1163 : decode cL_law 1163 = .ok (.if_icmp .eq 5, 3) := by decide +kernel
theorem dL_law_1166 : decode cL_law 1166 = .ok (.iconst 0, 1) := by decide +kernel
theorem dL_law_1167 : decode cL_law 1167 = .ok (.ireturn, 1) := by decide +kernel
theorem dL_law_1168 : decode cL_law 1168 = .ok (.iload 6, 2) := by decide +kernel
theorem dL_law_1170 : decode cL_law 1170 = .ok (.ifCond .ne 15, 3) := by decide +kernel
theorem dL_law_1173 : decode cL_law 1173 = .ok (.aload_n 3, 1) := by decide +kernel
theorem dL_law_1174 : decode cL_law 1174 = .ok (.iconst 0, 1) := by decide +kernel
theorem dL_law_1175 : decode cL_law 1175 = .ok (.laload, 1) := by decide +kernel
theorem dL_law_1176 : decode cL_law 1176 = .ok (.iload 7, 2) := by decide +kernel
theorem dL_law_1178 : decode cL_law 1178 = .ok (.i2l, 1) := by decide +kernel
theorem dL_law_1179 : decode cL_law 1179 = .ok (.lcmp, 1) := by decide +kernel
theorem dL_law_1180 : decode cL_law 1180 = .ok (.ifCond .eq 5, 3) := by decide +kernel
theorem dL_law_1183 : decode cL_law 1183 = .ok (.iconst 0, 1) := by decide +kernel
theorem dL_law_1184 : decode cL_law 1184 = .ok (.ireturn, 1) := by decide +kernel
theorem dL_law_1185 : decode cL_law 1185 = .ok (.goto 817, 3) := by decide +kernel
theorem dL_law_1188 : decode cL_law 1188 = .ok (.aload_n 1, 1) := by decide +kernel
theorem dL_law_1189 : decode cL_law 1189 = .ok (.aload_n 0, 1) := by decide +kernel
theorem dL_law_1190 : decode cL_law 1190 = .ok (.iload 5, 2) := by decide +kernel
theorem dL_law_1192 : decode cL_law 1192 = .ok (.iconst 1, 1) := by decide +kernel
theorem dL_law_1193 : decode cL_law 1193 = .ok (.iadd, 1) := by decide +kernel
theorem dL_law_1194 : decode cL_law 1194 = .ok (.iaload, 1) := by decide +kernel
theorem dL_law_1195 : decode cL_law 1195 = .ok (.aload_n 0, 1) := by decide +kernel
theorem dL_law_1196 : decode cL_law 1196 = .ok (.iload 5, 2) := by decide +kernel
theorem dL_law_1198 : decode cL_law 1198 = .ok (.iconst 2, 1) := by decide +kernel
theorem dL_law_1199 : decode cL_law 1199 = .ok (.iadd, 1) := by decide +kernel
theorem dL_law_1200 : decode cL_law 1200 = .ok (.iaload, 1) := by decide +kernel
theorem dL_law_1201 : decode cL_law 1201 = .ok (.aload_n 0, 1) := by decide +kernel
theorem dL_law_1202 : decode cL_law 1202 = .ok (.iload 5, 2) := by decide +kernel
theorem dL_law_1204 : decode cL_law 1204 = .ok (.iconst 3, 1) := by decide +kernel
theorem dL_law_1205 : decode cL_law 1205 = .ok (.iadd, 1) := by decide +kernel
theorem dL_law_1206 : decode cL_law 1206 = .ok (.iaload, 1) := by decide +kernel
theorem dL_law_1207 : decode cL_law 1207 = .ok (.aload_n 0, 1) := by decide +kernel
theorem dL_law_1208 : decode cL_law 1208 = .ok (.iload 5, 2) := by decide +kernel
theorem dL_law_1210 : decode cL_law 1210 = .ok (.iconst 4, 1) := by decide +kernel
theorem dL_law_1211 : decode cL_law 1211 = .ok (.iadd, 1) := by decide +kernel
theorem dL_law_1212 : decode cL_law 1212 = .ok (.iaload, 1) := by decide +kernel
theorem dL_law_1213 : decode cL_law 1213 = .ok (.aload_n 3, 1) := by decide +kernel
theorem dL_law_1214 : decode cL_law 1214 = .ok (.invokestatic 167, 3) := by decide +kernel
theorem dL_law_1217 : decode cL_law 1217 = .ok (.istore 6, 2) := by decide +kernel
theorem dL_law_1219 : decode cL_law 1219 = .ok (.aload_n 2, 1) := by decide +kernel
theorem dL_law_1220 : decode cL_law 1220 = .ok (.aload_n 0, 1) := by decide +kernel
theorem dL_law_1221 : decode cL_law 1221 = .ok (.iload 5, 2) := by decide +kernel
theorem dL_law_1223 : decode cL_law 1223 = .ok (.iconst 1, 1) := by decide +kernel
theorem dL_law_1224 : decode cL_law 1224 = .ok (.iadd, 1) := by decide +kernel
theorem dL_law_1225 : decode cL_law 1225 = .ok (.iaload, 1) := by decide +kernel
theorem dL_law_1226 : decode cL_law 1226 = .ok (.aload_n 0, 1) := by decide +kernel
theorem dL_law_1227 : decode cL_law 1227 = .ok (.iload 5, 2) := by decide +kernel
theorem dL_law_1229 : decode cL_law 1229 = .ok (.iconst 2, 1) := by decide +kernel
theorem dL_law_1230 : decode cL_law 1230 = .ok (.iadd, 1) := by decide +kernel
theorem dL_law_1231 : decode cL_law 1231 = .ok (.iaload, 1) := by decide +kernel
theorem dL_law_1232 : decode cL_law 1232 = .ok (.aload_n 0, 1) := by decide +kernel
theorem dL_law_1233 : decode cL_law 1233 = .ok (.iload 5, 2) := by decide +kernel
theorem dL_law_1235 : decode cL_law 1235 = .ok (.iconst 3, 1) := by decide +kernel
theorem dL_law_1236 : decode cL_law 1236 = .ok (.iadd, 1) := by decide +kernel
theorem dL_law_1237 : decode cL_law 1237 = .ok (.iaload, 1) := by decide +kernel
theorem dL_law_1238 : decode cL_law 1238 = .ok (.aload_n 0, 1) := by decide +kernel
theorem dL_law_1239 : decode cL_law 1239 = .ok (.iload 5, 2) := by decide +kernel
theorem dL_law_1241 : decode cL_law 1241 = .ok (.iconst 4, 1) := by decide +kernel
theorem dL_law_1242 : decode cL_law 1242 = .ok (.iadd, 1) := by decide +kernel
theorem dL_law_1243 : decode cL_law 1243 = .ok (.iaload, 1) := by decide +kernel
theorem dL_law_1244 : decode cL_law 1244 = .ok (.invokevirtual 169, 3) := by decide +kernel
theorem dL_law_1247 : decode cL_law 1247 = .ok (.istore 7, 2) := by decide +kernel
theorem dL_law_1249 : decode cL_law 1249 = .ok (.aload_n 2, 1) := by decide +kernel
theorem dL_law_1250 : decode cL_law 1250 = .ok (.invokevirtual 110, 3) := by decide +kernel
theorem dL_law_1253 : decode cL_law 1253 = .ok (.iload 6, 2) := by decide +kernel
theorem dL_law_1255 : decode cL_law 1255 = .ok (.if_icmp .eq 5, 3) := by decide +kernel
theorem dL_law_1258 : decode cL_law 1258 = .ok (.iconst 0, 1) := by decide +kernel
theorem dL_law_1259 : decode cL_law 1259 = .ok (.ireturn, 1) := by decide +kernel
theorem dL_law_1260 : decode cL_law 1260 = .ok (.iload 6, 2) := by decide +kernel
theorem dL_law_1262 : decode cL_law 1262 = .ok (.ifCond .ne 15, 3) := by decide +kernel
theorem dL_law_1265 : decode cL_law 1265 = .ok (.aload_n 3, 1) := by decide +kernel
theorem dL_law_1266 : decode cL_law 1266 = .ok (.iconst 0, 1) := by decide +kernel
theorem dL_law_1267 : decode cL_law 1267 = .ok (.laload, 1) := by decide +kernel
theorem dL_law_1268 : decode cL_law 1268 = .ok (.iload 7, 2) := by decide +kernel
theorem dL_law_1270 : decode cL_law 1270 = .ok (.i2l, 1) := by decide +kernel
theorem dL_law_1271 : decode cL_law 1271 = .ok (.lcmp, 1) := by decide +kernel
theorem dL_law_1272 : decode cL_law 1272 = .ok (.ifCond .eq 5, 3) := by decide +kernel
theorem dL_law_1275 : decode cL_law 1275 = .ok (.iconst 0, 1) := by decide +kernel
theorem dL_law_1276 : decode cL_law 1276 = .ok (.ireturn, 1) := by decide +kernel
theorem dL_law_1277 : decode cL_law 1277 = .ok (.goto 725, 3) := by decide +kernel
theorem dL_law_1280 : decode cL_law 1280 = .ok (.aload_n 1, 1) := by decide +kernel
theorem dL_law_1281 : decode cL_law 1281 = .ok (.aload_n 0, 1) := by decide +kernel
theorem dL_law_1282 : decode cL_law 1282 = .ok (.iload 5, 2) := by decide +kernel
theorem dL_law_1284 : decode cL_law 1284 = .ok (.iconst 1, 1) := by decide +kernel
theorem dL_law_1285 : decode cL_law 1285 = .ok (.iadd, 1) := by decide +kernel
theorem dL_law_1286 : decode cL_law 1286 = .ok (.iaload, 1) := by decide +kernel
theorem dL_law_1287 : decode cL_law 1287 = .ok (.aload_n 0, 1) := by decide +kernel
theorem dL_law_1288 : decode cL_law 1288 = .ok (.iload 5, 2) := by decide +kernel
theorem dL_law_1290 : decode cL_law 1290 = .ok (.iconst 2, 1) := by decide +kernel
theorem dL_law_1291 : decode cL_law 1291 = .ok (.iadd, 1) := by decide +kernel
theorem dL_law_1292 : decode cL_law 1292 = .ok (.iaload, 1) := by decide +kernel
theorem dL_law_1293 : decode cL_law 1293 = .ok (.aload_n 3, 1) := by decide +kernel
theorem dL_law_1294 : decode cL_law 1294 = .ok (.invokestatic 170, 3) := by decide +kernel
theorem dL_law_1297 : decode cL_law 1297 = .ok (.istore 6, 2) := by decide +kernel
theorem dL_law_1299 : decode cL_law 1299 = .ok (.aload_n 2, 1) := by decide +kernel
theorem dL_law_1300 : decode cL_law 1300 = .ok (.aload_n 0, 1) := by decide +kernel
theorem dL_law_1301 : decode cL_law 1301 = .ok (.iload 5, 2) := by decide +kernel
theorem dL_law_1303 : decode cL_law 1303 = .ok (.iconst 1, 1) := by decide +kernel
theorem dL_law_1304 : decode cL_law 1304 = .ok (.iadd, 1) := by decide +kernel
theorem dL_law_1305 : decode cL_law 1305 = .ok (.iaload, 1) := by decide +kernel
theorem dL_law_1306 : decode cL_law 1306 = .ok (.aload_n 0, 1) := by decide +kernel
theorem dL_law_1307 : decode cL_law 1307 = .ok (.iload 5, 2) := by decide +kernel
theorem dL_law_1309 : decode cL_law 1309 = .ok (.iconst 2, 1) := by decide +kernel
theorem dL_law_1310 : decode cL_law 1310 = .ok (.iadd, 1) := by decide +kernel
theorem dL_law_1311 : decode cL_law 1311 = .ok (.iaload, 1) := by decide +kernel
theorem dL_law_1312 : decode cL_law 1312 = .ok (.invokevirtual 172, 3) := by decide +kernel
theorem dL_law_1315 : decode cL_law 1315 = .ok (.istore 7, 2) := by decide +kernel
theorem dL_law_1317 : decode cL_law 1317 = .ok (.aload_n 2, 1) := by decide +kernel
theorem dL_law_1318 : decode cL_law 1318 = .ok (.invokevirtual 110, 3) := by decide +kernel
theorem dL_law_1321 : decode cL_law 1321 = .ok (.iload 6, 2) := by decide +kernel
theorem dL_law_1323 : decode cL_law 1323 = .ok (.if_icmp .eq 5, 3) := by decide +kernel
theorem dL_law_1326 : decode cL_law 1326 = .ok (.iconst 0, 1) := by decide +kernel
theorem dL_law_1327 : decode cL_law 1327 = .ok (.ireturn, 1) := by decide +kernel
theorem dL_law_1328 : decode cL_law 1328 = .ok (.iload 6, 2) := by decide +kernel
theorem dL_law_1330 : decode cL_law 1330 = .ok (.ifCond .ne 15, 3) := by decide +kernel
theorem dL_law_1333 : decode cL_law 1333 = .ok (.aload_n 3, 1) := by decide +kernel
theorem dL_law_1334 : decode cL_law 1334 = .ok (.iconst 0, 1) := by decide +kernel
theorem dL_law_1335 : decode cL_law 1335 = .ok (.laload, 1) := by decide +kernel
theorem dL_law_1336 : decode cL_law 1336 = .ok (.iload 7, 2) := by decide +kernel
theorem dL_law_1338 : decode cL_law 1338 = .ok (.i2l, 1) := by decide +kernel
theorem dL_law_1339 : decode cL_law 1339 = .ok (.lcmp, 1) := by decide +kernel
theorem dL_law_1340 : decode cL_law 1340 = .ok (.ifCond .eq 5, 3) := by decide +kernel
theorem dL_law_1343 : decode cL_law 1343 = .ok (.iconst 0, 1) := by decide +kernel
theorem dL_law_1344 : decode cL_law 1344 = .ok (.ireturn, 1) := by decide +kernel
theorem dL_law_1345 : decode cL_law 1345 = .ok (.goto 657, 3) := by decide +kernel
theorem dL_law_1348 : decode cL_law 1348 = .ok (.aload_n 1, 1) := by decide +kernel
theorem dL_law_1349 : decode cL_law 1349 = .ok (.aload_n 0, 1) := by decide +kernel
theorem dL_law_1350 : decode cL_law 1350 = .ok (.iload 5, 2) := by decide +kernel
theorem dL_law_1352 : decode cL_law 1352 = .ok (.iconst 1, 1) := by decide +kernel
theorem dL_law_1353 : decode cL_law 1353 = .ok (.iadd, 1) := by decide +kernel
theorem dL_law_1354 : decode cL_law 1354 = .ok (.iaload, 1) := by decide +kernel
theorem dL_law_1355 : decode cL_law 1355 = .ok (.aload_n 0, 1) := by decide +kernel
theorem dL_law_1356 : decode cL_law 1356 = .ok (.iload 5, 2) := by decide +kernel
theorem dL_law_1358 : decode cL_law 1358 = .ok (.iconst 2, 1) := by decide +kernel
theorem dL_law_1359 : decode cL_law 1359 = .ok (.iadd, 1) := by decide +kernel
theorem dL_law_1360 : decode cL_law 1360 = .ok (.iaload, 1) := by decide +kernel
theorem dL_law_1361 : decode cL_law 1361 = .ok (.aload_n 3, 1) := by decide +kernel
theorem dL_law_1362 : decode cL_law 1362 = .ok (.invokestatic 173, 3) := by decide +kernel
theorem dL_law_1365 : decode cL_law 1365 = .ok (.istore 6, 2) := by decide +kernel
theorem dL_law_1367 : decode cL_law 1367 = .ok (.aload_n 2, 1) := by decide +kernel
theorem dL_law_1368 : decode cL_law 1368 = .ok (.aload_n 0, 1) := by decide +kernel
theorem dL_law_1369 : decode cL_law 1369 = .ok (.iload 5, 2) := by decide +kernel
theorem dL_law_1371 : decode cL_law 1371 = .ok (.iconst 1, 1) := by decide +kernel
theorem dL_law_1372 : decode cL_law 1372 = .ok (.iadd, 1) := by decide +kernel
theorem dL_law_1373 : decode cL_law 1373 = .ok (.iaload, 1) := by decide +kernel
theorem dL_law_1374 : decode cL_law 1374 = .ok (.aload_n 0, 1) := by decide +kernel
theorem dL_law_1375 : decode cL_law 1375 = .ok (.iload 5, 2) := by decide +kernel
theorem dL_law_1377 : decode cL_law 1377 = .ok (.iconst 2, 1) := by decide +kernel
theorem dL_law_1378 : decode cL_law 1378 = .ok (.iadd, 1) := by decide +kernel
theorem dL_law_1379 : decode cL_law 1379 = .ok (.iaload, 1) := by decide +kernel
theorem dL_law_1380 : decode cL_law 1380 = .ok (.invokevirtual 175, 3) := by decide +kernel
theorem dL_law_1383 : decode cL_law 1383 = .ok (.istore 7, 2) := by decide +kernel
theorem dL_law_1385 : decode cL_law 1385 = .ok (.aload_n 2, 1) := by decide +kernel
theorem dL_law_1386 : decode cL_law 1386 = .ok (.invokevirtual 110, 3) := by decide +kernel
theorem dL_law_1389 : decode cL_law 1389 = .ok (.iload 6, 2) := by decide +kernel
theorem dL_law_1391 : decode cL_law 1391 = .ok (.if_icmp .eq 5, 3) := by decide +kernel
theorem dL_law_1394 : decode cL_law 1394 = .ok (.iconst 0, 1) := by decide +kernel
theorem dL_law_1395 : decode cL_law 1395 = .ok (.ireturn, 1) := by decide +kernel
theorem dL_law_1396 : decode cL_law 1396 = .ok (.iload 6, 2) := by decide +kernel
theorem dL_law_1398 : decode cL_law 1398 = .ok (.ifCond .ne 15, 3) := by decide +kernel
theorem dL_law_1401 : decode cL_law 1401 = .ok (.aload_n 3, 1) := by decide +kernel
theorem dL_law_1402 : decode cL_law 1402 = .ok (.iconst 0, 1) := by decide +kernel
theorem dL_law_1403 : decode cL_law 1403 = .ok (.laload, 1) := by decide +kernel
theorem dL_law_1404 : decode cL_law 1404 = .ok (.iload 7, 2) := by decide +kernel
theorem dL_law_1406 : decode cL_law 1406 = .ok (.i2l, 1) := by decide +kernel
theorem dL_law_1407 : decode cL_law 1407 = .ok (.lcmp, 1) := by decide +kernel
theorem dL_law_1408 : decode cL_law 1408 = .ok (.ifCond .eq 5, 3) := by decide +kernel
theorem dL_law_1411 : decode cL_law 1411 = .ok (.iconst 0, 1) := by decide +kernel
theorem dL_law_1412 : decode cL_law 1412 = .ok (.ireturn, 1) := by decide +kernel
theorem dL_law_1413 : decode cL_law 1413 = .ok (.goto 589, 3) := by decide +kernel
theorem dL_law_1416 : decode cL_law 1416 = .ok (.aload_n 1, 1) := by decide +kernel
theorem dL_law_1417 : decode cL_law 1417 = .ok (.aload_n 0, 1) := by decide +kernel
theorem dL_law_1418 : decode cL_law 1418 = .ok (.iload 5, 2) := by decide +kernel
theorem dL_law_1420 : decode cL_law 1420 = .ok (.iconst 1, 1) := by decide +kernel
theorem dL_law_1421 : decode cL_law 1421 = .ok (.iadd, 1) := by decide +kernel
theorem dL_law_1422 : decode cL_law 1422 = .ok (.iaload, 1) := by decide +kernel
theorem dL_law_1423 : decode cL_law 1423 = .ok (.aload 4, 2) := by decide +kernel
theorem dL_law_1425 : decode cL_law 1425 = .ok (.invokestatic 176, 3) := by decide +kernel
theorem dL_law_1428 : decode cL_law 1428 = .ok (.istore 6, 2) := by decide +kernel
theorem dL_law_1430 : decode cL_law 1430 = .ok (.aload_n 2, 1) := by decide +kernel
theorem dL_law_1431 : decode cL_law 1431 = .ok (.aload_n 0, 1) := by decide +kernel
theorem dL_law_1432 : decode cL_law 1432 = .ok (.iload 5, 2) := by decide +kernel
theorem dL_law_1434 : decode cL_law 1434 = .ok (.iconst 1, 1) := by decide +kernel
theorem dL_law_1435 : decode cL_law 1435 = .ok (.iadd, 1) := by decide +kernel
theorem dL_law_1436 : decode cL_law 1436 = .ok (.iaload, 1) := by decide +kernel
theorem dL_law_1437 : decode cL_law 1437 = .ok (.invokevirtual 179, 3) := by decide +kernel
theorem dL_law_1440 : decode cL_law 1440 = .ok (.dstore 7, 2) := by decide +kernel
theorem dL_law_1442 : decode cL_law 1442 = .ok (.aload_n 2, 1) := by decide +kernel
theorem dL_law_1443 : decode cL_law 1443 = .ok (.invokevirtual 110, 3) := by decide +kernel
theorem dL_law_1446 : decode cL_law 1446 = .ok (.iload 6, 2) := by decide +kernel
theorem dL_law_1448 : decode cL_law 1448 = .ok (.if_icmp .eq 5, 3) := by decide +kernel
theorem dL_law_1451 : decode cL_law 1451 = .ok (.iconst 0, 1) := by decide +kernel
theorem dL_law_1452 : decode cL_law 1452 = .ok (.ireturn, 1) := by decide +kernel
theorem dL_law_1453 : decode cL_law 1453 = .ok (.iload 6, 2) := by decide +kernel
theorem dL_law_1455 : decode cL_law 1455 = .ok (.ifCond .ne 35, 3) := by decide +kernel
theorem dL_law_1458 : decode cL_law 1458 = .ok (.aload 4, 2) := by decide +kernel
theorem dL_law_1460 : decode cL_law 1460 = .ok (.iconst 0, 1) := by decide +kernel
theorem dL_law_1461 : decode cL_law 1461 = .ok (.daload, 1) := by decide +kernel
theorem dL_law_1462 : decode cL_law 1462 = .ok (.dload 7, 2) := by decide +kernel
theorem dL_law_1464 : decode cL_law 1464 = .ok (.dcmp .l, 1) := by decide +kernel
theorem dL_law_1465 : decode cL_law 1465 = .ok (.ifCond .eq 25, 3) := by decide +kernel
theorem dL_law_1468 : decode cL_law 1468 = .ok (.aload 4, 2) := by decide +kernel
theorem dL_law_1470 : decode cL_law 1470 = .ok (.iconst 0, 1) := by decide +kernel
theorem dL_law_1471 : decode cL_law 1471 = .ok (.daload, 1) := by decide +kernel
theorem dL_law_1472 : decode cL_law 1472 = .ok (.aload 4, 2) := by decide +kernel
theorem dL_law_1474 : decode cL_law 1474 = .ok (.iconst 0, 1) := by decide +kernel
theorem dL_law_1475 : decode cL_law 1475 = .ok (.daload, 1) := by decide +kernel
theorem dL_law_1476 : decode cL_law 1476 = .ok (.dcmp .l, 1) := by decide +kernel
theorem dL_law_1477 : decode cL_law 1477 = .ok (.ifCond .eq 11, 3) := by decide +kernel
theorem dL_law_1480 : decode cL_law 1480 = .ok (.dload 7, 2) := by decide +kernel
theorem dL_law_1482 : decode cL_law 1482 = .ok (.dload 7, 2) := by decide +kernel
theorem dL_law_1484 : decode cL_law 1484 = .ok (.dcmp .l, 1) := by decide +kernel
theorem dL_law_1485 : decode cL_law 1485 = .ok (.ifCond .ne 5, 3) := by decide +kernel
theorem dL_law_1488 : decode cL_law 1488 = .ok (.iconst 0, 1) := by decide +kernel
theorem dL_law_1489 : decode cL_law 1489 = .ok (.ireturn, 1) := by decide +kernel
theorem dL_law_1490 : decode cL_law 1490 = .ok (.goto 512, 3) := by decide +kernel
theorem dL_law_1493 : decode cL_law 1493 = .ok (.aload_n 1, 1) := by decide +kernel
theorem dL_law_1494 : decode cL_law 1494 = .ok (.aload_n 0, 1) := by decide +kernel
theorem dL_law_1495 : decode cL_law 1495 = .ok (.iload 5, 2) := by decide +kernel
theorem dL_law_1497 : decode cL_law 1497 = .ok (.iconst 1, 1) := by decide +kernel
theorem dL_law_1498 : decode cL_law 1498 = .ok (.iadd, 1) := by decide +kernel
theorem dL_law_1499 : decode cL_law 1499 = .ok (.iaload, 1) := by decide +kernel
theorem dL_law_1500 : decode cL_law 1500 = .ok (.aload_n 0, 1) := by decide +kernel
theorem dL_law_1501 : decode cL_law 1501 = .ok (.iload 5, 2) := by decide +kernel
theorem dL_law_1503 : decode cL_law 1503 = .ok (.iconst 2, 1) := by decide +kernel
theorem dL_law_1504 : decode cL_law 1504 = .ok (.iadd, 1) := by decide +kernel
theorem dL_law_1505 : decode cL_law 1505 = .ok (.iaload, 1) := by decide +kernel
theorem dL_law_1506 : decode cL_law 1506 = .ok (.aload 4, 2) := by decide +kernel
theorem dL_law_1508 : decode cL_law 1508 = .ok (.invokestatic 180, 3) := by decide +kernel
theorem dL_law_1511 : decode cL_law 1511 = .ok (.istore 6, 2) := by decide +kernel
theorem dL_law_1513 : decode cL_law 1513 = .ok (.aload_n 2, 1) := by decide +kernel
theorem dL_law_1514 : decode cL_law 1514 = .ok (.aload_n 0, 1) := by decide +kernel
theorem dL_law_1515 : decode cL_law 1515 = .ok (.iload 5, 2) := by decide +kernel
theorem dL_law_1517 : decode cL_law 1517 = .ok (.iconst 1, 1) := by decide +kernel
theorem dL_law_1518 : decode cL_law 1518 = .ok (.iadd, 1) := by decide +kernel
theorem dL_law_1519 : decode cL_law 1519 = .ok (.iaload, 1) := by decide +kernel
theorem dL_law_1520 : decode cL_law 1520 = .ok (.aload_n 0, 1) := by decide +kernel
theorem dL_law_1521 : decode cL_law 1521 = .ok (.iload 5, 2) := by decide +kernel
theorem dL_law_1523 : decode cL_law 1523 = .ok (.iconst 2, 1) := by decide +kernel
theorem dL_law_1524 : decode cL_law 1524 = .ok (.iadd, 1) := by decide +kernel
theorem dL_law_1525 : decode cL_law 1525 = .ok (.iaload, 1) := by decide +kernel
theorem dL_law_1526 : decode cL_law 1526 = .ok (.invokevirtual 183, 3) := by decide +kernel
theorem dL_law_1529 : decode cL_law 1529 = .ok (.dstore 7, 2) := by decide +kernel
theorem dL_law_1531 : decode cL_law 1531 = .ok (.aload_n 2, 1) := by decide +kernel
theorem dL_law_1532 : decode cL_law 1532 = .ok (.invokevirtual 110, 3) := by decide +kernel
theorem dL_law_1535 : decode cL_law 1535 = .ok (.iload 6, 2) := by decide +kernel
theorem dL_law_1537 : decode cL_law 1537 = .ok (.if_icmp .eq 5, 3) := by decide +kernel
theorem dL_law_1540 : decode cL_law 1540 = .ok (.iconst 0, 1) := by decide +kernel
theorem dL_law_1541 : decode cL_law 1541 = .ok (.ireturn, 1) := by decide +kernel
theorem dL_law_1542 : decode cL_law 1542 = .ok (.iload 6, 2) := by decide +kernel
theorem dL_law_1544 : decode cL_law 1544 = .ok (.ifCond .ne 35, 3) := by decide +kernel
theorem dL_law_1547 : decode cL_law 1547 = .ok (.aload 4, 2) := by decide +kernel
theorem dL_law_1549 : decode cL_law 1549 = .ok (.iconst 0, 1) := by decide +kernel
theorem dL_law_1550 : decode cL_law 1550 = .ok (.daload, 1) := by decide +kernel
theorem dL_law_1551 : decode cL_law 1551 = .ok (.dload 7, 2) := by decide +kernel
theorem dL_law_1553 : decode cL_law 1553 = .ok (.dcmp .l, 1) := by decide +kernel
theorem dL_law_1554 : decode cL_law 1554 = .ok (.ifCond .eq 25, 3) := by decide +kernel
theorem dL_law_1557 : decode cL_law 1557 = .ok (.aload 4, 2) := by decide +kernel
theorem dL_law_1559 : decode cL_law 1559 = .ok (.iconst 0, 1) := by decide +kernel
theorem dL_law_1560 : decode cL_law 1560 = .ok (.daload, 1) := by decide +kernel
theorem dL_law_1561 : decode cL_law 1561 = .ok (.aload 4, 2) := by decide +kernel
theorem dL_law_1563 : decode cL_law 1563 = .ok (.iconst 0, 1) := by decide +kernel
theorem dL_law_1564 : decode cL_law 1564 = .ok (.daload, 1) := by decide +kernel
theorem dL_law_1565 : decode cL_law 1565 = .ok (.dcmp .l, 1) := by decide +kernel
theorem dL_law_1566 : decode cL_law 1566 = .ok (.ifCond .eq 11, 3) := by decide +kernel
theorem dL_law_1569 : decode cL_law 1569 = .ok (.dload 7, 2) := by decide +kernel
theorem dL_law_1571 : decode cL_law 1571 = .ok (.dload 7, 2) := by decide +kernel
theorem dL_law_1573 : decode cL_law 1573 = .ok (.dcmp .l, 1) := by decide +kernel
theorem dL_law_1574 : decode cL_law 1574 = .ok (.ifCond .ne 5, 3) := by decide +kernel
theorem dL_law_1577 : decode cL_law 1577 = .ok (.iconst 0, 1) := by decide +kernel
theorem dL_law_1578 : decode cL_law 1578 = .ok (.ireturn, 1) := by decide +kernel
theorem dL_law_1579 : decode cL_law 1579 = .ok (.goto 423, 3) := by decide +kernel
theorem dL_law_1582 : decode cL_law 1582 = .ok (.aload_n 1, 1) := by decide +kernel
theorem dL_law_1583 : decode cL_law 1583 = .ok (.aload_n 0, 1) := by decide +kernel
theorem dL_law_1584 : decode cL_law 1584 = .ok (.iload 5, 2) := by decide +kernel
theorem dL_law_1586 : decode cL_law 1586 = .ok (.iconst 1, 1) := by decide +kernel
theorem dL_law_1587 : decode cL_law 1587 = .ok (.iadd, 1) := by decide +kernel
theorem dL_law_1588 : decode cL_law 1588 = .ok (.iaload, 1) := by decide +kernel
theorem dL_law_1589 : decode cL_law 1589 = .ok (.aload 4, 2) := by decide +kernel
theorem dL_law_1591 : decode cL_law 1591 = .ok (.invokestatic 184, 3) := by decide +kernel
theorem dL_law_1594 : decode cL_law 1594 = .ok (.istore 6, 2) := by decide +kernel
theorem dL_law_1596 : decode cL_law 1596 = .ok (.aload_n 2, 1) := by decide +kernel
theorem dL_law_1597 : decode cL_law 1597 = .ok (.aload_n 0, 1) := by decide +kernel
theorem dL_law_1598 : decode cL_law 1598 = .ok (.iload 5, 2) := by decide +kernel
theorem dL_law_1600 : decode cL_law 1600 = .ok (.iconst 1, 1) := by decide +kernel
theorem dL_law_1601 : decode cL_law 1601 = .ok (.iadd, 1) := by decide +kernel
theorem dL_law_1602 : decode cL_law 1602 = .ok (.iaload, 1) := by decide +kernel
theorem dL_law_1603 : decode cL_law 1603 = .ok (.invokevirtual 186, 3) := by decide +kernel
theorem dL_law_1606 : decode cL_law 1606 = .ok (.dstore 7, 2) := by decide +kernel
theorem dL_law_1608 : decode cL_law 1608 = .ok (.aload_n 2, 1) := by decide +kernel
theorem dL_law_1609 : decode cL_law 1609 = .ok (.invokevirtual 110, 3) := by decide +kernel
theorem dL_law_1612 : decode cL_law 1612 = .ok (.iload 6, 2) := by decide +kernel
theorem dL_law_1614 : decode cL_law 1614 = .ok (.if_icmp .eq 5, 3) := by decide +kernel
theorem dL_law_1617 : decode cL_law 1617 = .ok (.iconst 0, 1) := by decide +kernel
theorem dL_law_1618 : decode cL_law 1618 = .ok (.ireturn, 1) := by decide +kernel
theorem dL_law_1619 : decode cL_law 1619 = .ok (.iload 6, 2) := by decide +kernel
theorem dL_law_1621 : decode cL_law 1621 = .ok (.ifCond .ne 35, 3) := by decide +kernel
theorem dL_law_1624 : decode cL_law 1624 = .ok (.aload 4, 2) := by decide +kernel
theorem dL_law_1626 : decode cL_law 1626 = .ok (.iconst 0, 1) := by decide +kernel
theorem dL_law_1627 : decode cL_law 1627 = .ok (.daload, 1) := by decide +kernel
theorem dL_law_1628 : decode cL_law 1628 = .ok (.dload 7, 2) := by decide +kernel
theorem dL_law_1630 : decode cL_law 1630 = .ok (.dcmp .l, 1) := by decide +kernel
theorem dL_law_1631 : decode cL_law 1631 = .ok (.ifCond .eq 25, 3) := by decide +kernel
theorem dL_law_1634 : decode cL_law 1634 = .ok (.aload 4, 2) := by decide +kernel
theorem dL_law_1636 : decode cL_law 1636 = .ok (.iconst 0, 1) := by decide +kernel
theorem dL_law_1637 : decode cL_law 1637 = .ok (.daload, 1) := by decide +kernel
theorem dL_law_1638 : decode cL_law 1638 = .ok (.aload 4, 2) := by decide +kernel
theorem dL_law_1640 : decode cL_law 1640 = .ok (.iconst 0, 1) := by decide +kernel
theorem dL_law_1641 : decode cL_law 1641 = .ok (.daload, 1) := by decide +kernel
theorem dL_law_1642 : decode cL_law 1642 = .ok (.dcmp .l, 1) := by decide +kernel
theorem dL_law_1643 : decode cL_law 1643 = .ok (.ifCond .eq 11, 3) := by decide +kernel
theorem dL_law_1646 : decode cL_law 1646 = .ok (.dload 7, 2) := by decide +kernel
theorem dL_law_1648 : decode cL_law 1648 = .ok (.dload 7, 2) := by decide +kernel
theorem dL_law_1650 : decode cL_law 1650 = .ok (.dcmp .l, 1) := by decide +kernel
theorem dL_law_1651 : decode cL_law 1651 = .ok (.ifCond .ne 5, 3) := by decide +kernel
theorem dL_law_1654 : decode cL_law 1654 = .ok (.iconst 0, 1) := by decide +kernel
theorem dL_law_1655 : decode cL_law 1655 = .ok (.ireturn, 1) := by decide +kernel
theorem dL_law_1656 : decode cL_law 1656 = .ok (.goto 346, 3) := by decide +kernel
theorem dL_law_1659 : decode cL_law 1659 = .ok (.aload_n 1, 1) := by decide +kernel
theorem dL_law_1660 : decode cL_law 1660 = .ok (.aload_n 0, 1) := by decide +kernel
theorem dL_law_1661 : decode cL_law 1661 = .ok (.iload 5, 2) := by decide +kernel
theorem dL_law_1663 : decode cL_law 1663 = .ok (.iconst 1, 1) := by decide +kernel
theorem dL_law_1664 : decode cL_law 1664 = .ok (.iadd, 1) := by decide +kernel
theorem dL_law_1665 : decode cL_law 1665 = .ok (.iaload, 1) := by decide +kernel
theorem dL_law_1666 : decode cL_law 1666 = .ok (.aload_n 0, 1) := by decide +kernel
theorem dL_law_1667 : decode cL_law 1667 = .ok (.iload 5, 2) := by decide +kernel
theorem dL_law_1669 : decode cL_law 1669 = .ok (.iconst 2, 1) := by decide +kernel
theorem dL_law_1670 : decode cL_law 1670 = .ok (.iadd, 1) := by decide +kernel
theorem dL_law_1671 : decode cL_law 1671 = .ok (.iaload, 1) := by decide +kernel
theorem dL_law_1672 : decode cL_law 1672 = .ok (.aload_n 3, 1) := by decide +kernel
theorem dL_law_1673 : decode cL_law 1673 = .ok (.invokestatic 187, 3) := by decide +kernel
theorem dL_law_1676 : decode cL_law 1676 = .ok (.istore 6, 2) := by decide +kernel
theorem dL_law_1678 : decode cL_law 1678 = .ok (.aload_n 2, 1) := by decide +kernel
theorem dL_law_1679 : decode cL_law 1679 = .ok (.aload_n 0, 1) := by decide +kernel
theorem dL_law_1680 : decode cL_law 1680 = .ok (.iload 5, 2) := by decide +kernel
theorem dL_law_1682 : decode cL_law 1682 = .ok (.iconst 1, 1) := by decide +kernel
theorem dL_law_1683 : decode cL_law 1683 = .ok (.iadd, 1) := by decide +kernel
theorem dL_law_1684 : decode cL_law 1684 = .ok (.iaload, 1) := by decide +kernel
theorem dL_law_1685 : decode cL_law 1685 = .ok (.aload_n 0, 1) := by decide +kernel
theorem dL_law_1686 : decode cL_law 1686 = .ok (.iload 5, 2) := by decide +kernel
theorem dL_law_1688 : decode cL_law 1688 = .ok (.iconst 2, 1) := by decide +kernel
theorem dL_law_1689 : decode cL_law 1689 = .ok (.iadd, 1) := by decide +kernel
theorem dL_law_1690 : decode cL_law 1690 = .ok (.iaload, 1) := by decide +kernel
theorem dL_law_1691 : decode cL_law 1691 = .ok (.invokevirtual 189, 3) := by decide +kernel
theorem dL_law_1694 : decode cL_law 1694 = .ok (.istore 7, 2) := by decide +kernel
theorem dL_law_1696 : decode cL_law 1696 = .ok (.aload_n 2, 1) := by decide +kernel
theorem dL_law_1697 : decode cL_law 1697 = .ok (.invokevirtual 110, 3) := by decide +kernel
theorem dL_law_1700 : decode cL_law 1700 = .ok (.iload 6, 2) := by decide +kernel
theorem dL_law_1702 : decode cL_law 1702 = .ok (.if_icmp .eq 5, 3) := by decide +kernel
theorem dL_law_1705 : decode cL_law 1705 = .ok (.iconst 0, 1) := by decide +kernel
theorem dL_law_1706 : decode cL_law 1706 = .ok (.ireturn, 1) := by decide +kernel
theorem dL_law_1707 : decode cL_law 1707 = .ok (.iload 6, 2) := by decide +kernel
theorem dL_law_1709 : decode cL_law 1709 = .ok (.ifCond .ne 15, 3) := by decide +kernel
theorem dL_law_1712 : decode cL_law 1712 = .ok (.aload_n 3, 1) := by decide +kernel
theorem dL_law_1713 : decode cL_law 1713 = .ok (.iconst 0, 1) := by decide +kernel
theorem dL_law_1714 : decode cL_law 1714 = .ok (.laload, 1) := by decide +kernel
theorem dL_law_1715 : decode cL_law 1715 = .ok (.iload 7, 2) := by decide +kernel
theorem dL_law_1717 : decode cL_law 1717 = .ok (.i2l, 1) := by decide +kernel
theorem dL_law_1718 : decode cL_law 1718 = .ok (.lcmp, 1) := by decide +kernel
theorem dL_law_1719 : decode cL_law 1719 = .ok (.ifCond .eq 5, 3) := by decide +kernel
theorem dL_law_1722 : decode cL_law 1722 = .ok (.iconst 0, 1) := by decide +kernel
theorem dL_law_1723 : decode cL_law 1723 = .ok (.ireturn, 1) := by decide +kernel
theorem dL_law_1724 : decode cL_law 1724 = .ok (.goto 278, 3) := by decide +kernel
theorem dL_law_1727 : decode cL_law 1727 = .ok (.aload_n 1, 1) := by decide +kernel
theorem dL_law_1728 : decode cL_law 1728 = .ok (.aload_n 0, 1) := by decide +kernel
theorem dL_law_1729 : decode cL_law 1729 = .ok (.iload 5, 2) := by decide +kernel
theorem dL_law_1731 : decode cL_law 1731 = .ok (.iconst 1, 1) := by decide +kernel
theorem dL_law_1732 : decode cL_law 1732 = .ok (.iadd, 1) := by decide +kernel
theorem dL_law_1733 : decode cL_law 1733 = .ok (.iaload, 1) := by decide +kernel
theorem dL_law_1734 : decode cL_law 1734 = .ok (.aload_n 3, 1) := by decide +kernel
theorem dL_law_1735 : decode cL_law 1735 = .ok (.invokestatic 190, 3) := by decide +kernel
theorem dL_law_1738 : decode cL_law 1738 = .ok (.istore 6, 2) := by decide +kernel
theorem dL_law_1740 : decode cL_law 1740 = .ok (.aload_n 2, 1) := by decide +kernel
theorem dL_law_1741 : decode cL_law 1741 = .ok (.aload_n 0, 1) := by decide +kernel
theorem dL_law_1742 : decode cL_law 1742 = .ok (.iload 5, 2) := by decide +kernel
theorem dL_law_1744 : decode cL_law 1744 = .ok (.iconst 1, 1) := by decide +kernel
theorem dL_law_1745 : decode cL_law 1745 = .ok (.iadd, 1) := by decide +kernel
theorem dL_law_1746 : decode cL_law 1746 = .ok (.iaload, 1) := by decide +kernel
theorem dL_law_1747 : decode cL_law 1747 = .ok (.invokevirtual 192, 3) := by decide +kernel
theorem dL_law_1750 : decode cL_law 1750 = .ok (.istore 7, 2) := by decide +kernel
theorem dL_law_1752 : decode cL_law 1752 = .ok (.aload_n 2, 1) := by decide +kernel
theorem dL_law_1753 : decode cL_law 1753 = .ok (.invokevirtual 110, 3) := by decide +kernel
theorem dL_law_1756 : decode cL_law 1756 = .ok (.iload 6, 2) := by decide +kernel
theorem dL_law_1758 : decode cL_law 1758 = .ok (.if_icmp .eq 5, 3) := by decide +kernel
theorem dL_law_1761 : decode cL_law 1761 = .ok (.iconst 0, 1) := by decide +kernel
theorem dL_law_1762 : decode cL_law 1762 = .ok (.ireturn, 1) := by decide +kernel
theorem dL_law_1763 : decode cL_law 1763 = .ok (.iload 6, 2) := by decide +kernel
theorem dL_law_1765 : decode cL_law 1765 = .ok (.ifCond .ne 15, 3) := by decide +kernel
theorem dL_law_1768 : decode cL_law 1768 = .ok (.aload_n 3, 1) := by decide +kernel
theorem dL_law_1769 : decode cL_law 1769 = .ok (.iconst 0, 1) := by decide +kernel
theorem dL_law_1770 : decode cL_law 1770 = .ok (.laload, 1) := by decide +kernel
theorem dL_law_1771 : decode cL_law 1771 = .ok (.iload 7, 2) := by decide +kernel
theorem dL_law_1773 : decode cL_law 1773 = .ok (.i2l, 1) := by decide +kernel
theorem dL_law_1774 : decode cL_law 1774 = .ok (.lcmp, 1) := by decide +kernel
theorem dL_law_1775 : decode cL_law 1775 = .ok (.ifCond .eq 5, 3) := by decide +kernel
theorem dL_law_1778 : decode cL_law 1778 = .ok (.iconst 0, 1) := by decide +kernel
theorem dL_law_1779 : decode cL_law 1779 = .ok (.ireturn, 1) := by decide +kernel
theorem dL_law_1780 : decode cL_law 1780 = .ok (.goto 222, 3) := by decide +kernel
theorem dL_law_1783 : decode cL_law 1783 = .ok (.aload_n 1, 1) := by decide +kernel
theorem dL_law_1784 : decode cL_law 1784 = .ok (.aload_n 0, 1) := by decide +kernel
theorem dL_law_1785 : decode cL_law 1785 = .ok (.iload 5, 2) := by decide +kernel
theorem dL_law_1787 : decode cL_law 1787 = .ok (.iconst 1, 1) := by decide +kernel
theorem dL_law_1788 : decode cL_law 1788 = .ok (.iadd, 1) := by decide +kernel
theorem dL_law_1789 : decode cL_law 1789 = .ok (.iaload, 1) := by decide +kernel
theorem dL_law_1790 : decode cL_law 1790 = .ok (.aload_n 0, 1) := by decide +kernel
theorem dL_law_1791 : decode cL_law 1791 = .ok (.iload 5, 2) := by decide +kernel
theorem dL_law_1793 : decode cL_law 1793 = .ok (.iconst 2, 1) := by decide +kernel
theorem dL_law_1794 : decode cL_law 1794 = .ok (.iadd, 1) := by decide +kernel
theorem dL_law_1795 : decode cL_law 1795 = .ok (.iaload, 1) := by decide +kernel
theorem dL_law_1796 : decode cL_law 1796 = .ok (.aload_n 3, 1) := by decide +kernel
theorem dL_law_1797 : decode cL_law 1797 = .ok (.invokestatic 193, 3) := by decide +kernel
theorem dL_law_1800 : decode cL_law 1800 = .ok (.istore 6, 2) := by decide +kernel
theorem dL_law_1802 : decode cL_law 1802 = .ok (.aload_n 2, 1) := by decide +kernel
theorem dL_law_1803 : decode cL_law 1803 = .ok (.aload_n 0, 1) := by decide +kernel
theorem dL_law_1804 : decode cL_law 1804 = .ok (.iload 5, 2) := by decide +kernel
theorem dL_law_1806 : decode cL_law 1806 = .ok (.iconst 1, 1) := by decide +kernel
theorem dL_law_1807 : decode cL_law 1807 = .ok (.iadd, 1) := by decide +kernel
theorem dL_law_1808 : decode cL_law 1808 = .ok (.iaload, 1) := by decide +kernel
theorem dL_law_1809 : decode cL_law 1809 = .ok (.aload_n 0, 1) := by decide +kernel
theorem dL_law_1810 : decode cL_law 1810 = .ok (.iload 5, 2) := by decide +kernel
theorem dL_law_1812 : decode cL_law 1812 = .ok (.iconst 2, 1) := by decide +kernel
theorem dL_law_1813 : decode cL_law 1813 = .ok (.iadd, 1) := by decide +kernel
theorem dL_law_1814 : decode cL_law 1814 = .ok (.iaload, 1) := by decide +kernel
theorem dL_law_1815 : decode cL_law 1815 = .ok (.invokevirtual 195, 3) := by decide +kernel
theorem dL_law_1818 : decode cL_law 1818 = .ok (.istore 7, 2) := by decide +kernel
theorem dL_law_1820 : decode cL_law 1820 = .ok (.aload_n 2, 1) := by decide +kernel
theorem dL_law_1821 : decode cL_law 1821 = .ok (.invokevirtual 110, 3) := by decide +kernel
theorem dL_law_1824 : decode cL_law 1824 = .ok (.iload 6, 2) := by decide +kernel
theorem dL_law_1826 : decode cL_law 1826 = .ok (.if_icmp .eq 5, 3) := by decide +kernel
theorem dL_law_1829 : decode cL_law 1829 = .ok (.iconst 0, 1) := by decide +kernel
theorem dL_law_1830 : decode cL_law 1830 = .ok (.ireturn, 1) := by decide +kernel
theorem dL_law_1831 : decode cL_law 1831 = .ok (.iload 6, 2) := by decide +kernel
theorem dL_law_1833 : decode cL_law 1833 = .ok (.ifCond .ne 15, 3) := by decide +kernel
theorem dL_law_1836 : decode cL_law 1836 = .ok (.aload_n 3, 1) := by decide +kernel
theorem dL_law_1837 : decode cL_law 1837 = .ok (.iconst 0, 1) := by decide +kernel
theorem dL_law_1838 : decode cL_law 1838 = .ok (.laload, 1) := by decide +kernel
theorem dL_law_1839 : decode cL_law 1839 = .ok (.iload 7, 2) := by decide +kernel
theorem dL_law_1841 : decode cL_law 1841 = .ok (.i2l, 1) := by decide +kernel
theorem dL_law_1842 : decode cL_law 1842 = .ok (.lcmp, 1) := by decide +kernel
theorem dL_law_1843 : decode cL_law 1843 = .ok (.ifCond .eq 5, 3) := by decide +kernel
theorem dL_law_1846 : decode cL_law 1846 = .ok (.iconst 0, 1) := by decide +kernel
theorem dL_law_1847 : decode cL_law 1847 = .ok (.ireturn, 1) := by decide +kernel
theorem dL_law_1848 : decode cL_law 1848 = .ok (.goto 154, 3) := by decide +kernel
theorem dL_law_1851 : decode cL_law 1851 = .ok (.aload_n 1, 1) := by decide +kernel
theorem dL_law_1852 : decode cL_law 1852 = .ok (.invokevirtual 196, 3) := by decide +kernel
theorem dL_law_1855 : decode cL_law 1855 = .ok (.aload_n 2, 1) := by decide +kernel
theorem dL_law_1856 : decode cL_law 1856 = .ok (.invokevirtual 199, 3) := by decide +kernel
theorem dL_law_1859 : decode cL_law 1859 = .ok (.if_icmp .eq 143, 3) := by decide +kernel
theorem dL_law_1862 : decode cL_law 1862 = .ok (.iconst 0, 1) := by decide +kernel
theorem dL_law_1863 : decode cL_law 1863 = .ok (.ireturn, 1) := by decide +kernel
theorem dL_law_1864 : decode cL_law 1864 = .ok (.aload_n 1, 1) := by decide +kernel
theorem dL_law_1865 : decode cL_law 1865 = .ok (.aload_n 0, 1) := by decide +kernel
theorem dL_law_1866 : decode cL_law 1866 = .ok (.iload 5, 2) := by decide +kernel
theorem dL_law_1868 : decode cL_law 1868 = .ok (.iconst 1, 1) := by decide +kernel
theorem dL_law_1869 : decode cL_law 1869 = .ok (.iadd, 1) := by decide +kernel
theorem dL_law_1870 : decode cL_law 1870 = .ok (.iaload, 1) := by decide +kernel
theorem dL_law_1871 : decode cL_law 1871 = .ok (.aload_n 0, 1) := by decide +kernel
theorem dL_law_1872 : decode cL_law 1872 = .ok (.iload 5, 2) := by decide +kernel
theorem dL_law_1874 : decode cL_law 1874 = .ok (.iconst 2, 1) := by decide +kernel
theorem dL_law_1875 : decode cL_law 1875 = .ok (.iadd, 1) := by decide +kernel
theorem dL_law_1876 : decode cL_law 1876 = .ok (.iaload, 1) := by decide +kernel
theorem dL_law_1877 : decode cL_law 1877 = .ok (.aload_n 3, 1) := by decide +kernel
theorem dL_law_1878 : decode cL_law 1878 = .ok (.invokestatic 200, 3) := by decide +kernel
theorem dL_law_1881 : decode cL_law 1881 = .ok (.istore 6, 2) := by decide +kernel
theorem dL_law_1883 : decode cL_law 1883 = .ok (.aload_n 2, 1) := by decide +kernel
theorem dL_law_1884 : decode cL_law 1884 = .ok (.aload_n 0, 1) := by decide +kernel
theorem dL_law_1885 : decode cL_law 1885 = .ok (.iload 5, 2) := by decide +kernel
theorem dL_law_1887 : decode cL_law 1887 = .ok (.iconst 1, 1) := by decide +kernel
theorem dL_law_1888 : decode cL_law 1888 = .ok (.iadd, 1) := by decide +kernel
theorem dL_law_1889 : decode cL_law 1889 = .ok (.iaload, 1) := by decide +kernel
theorem dL_law_1890 : decode cL_law 1890 = .ok (.aload_n 0, 1) := by decide +kernel
theorem dL_law_1891 : decode cL_law 1891 = .ok (.iload 5, 2) := by decide +kernel
theorem dL_law_1893 : decode cL_law 1893 = .ok (.iconst 2, 1) := by decide +kernel
theorem dL_law_1894 : decode cL_law 1894 = .ok (.iadd, 1) := by decide +kernel
theorem dL_law_1895 : decode cL_law 1895 = .ok (.iaload, 1) := by decide +kernel
theorem dL_law_1896 : decode cL_law 1896 = .ok (.invokevirtual 202, 3) := by decide +kernel
theorem dL_law_1899 : decode cL_law 1899 = .ok (.istore 7, 2) := by decide +kernel
theorem dL_law_1901 : decode cL_law 1901 = .ok (.aload_n 2, 1) := by decide +kernel
theorem dL_law_1902 : decode cL_law 1902 = .ok (.invokevirtual 110, 3) := by decide +kernel
theorem dL_law_1905 : decode cL_law 1905 = .ok (.iload 6, 2) := by decide +kernel
theorem dL_law_1907 : decode cL_law 1907 = .ok (.if_icmp .eq 5, 3) := by decide +kernel
theorem dL_law_1910 : decode cL_law 1910 = .ok (.iconst 0, 1) := by decide +kernel
theorem dL_law_1911 : decode cL_law 1911 = .ok (.ireturn, 1) := by decide +kernel
theorem dL_law_1912 : decode cL_law 1912 = .ok (.iload 6, 2) := by decide +kernel
theorem dL_law_1914 : decode cL_law 1914 = .ok (.ifCond .ne 15, 3) := by decide +kernel
theorem dL_law_1917 : decode cL_law 1917 = .ok (.aload_n 3, 1) := by decide +kernel
theorem dL_law_1918 : decode cL_law 1918 = .ok (.iconst 0, 1) := by decide +kernel
theorem dL_law_1919 : decode cL_law 1919 = .ok (.laload, 1) := by decide +kernel
theorem dL_law_1920 : decode cL_law 1920 = .ok (.iload 7, 2) := by decide +kernel
theorem dL_law_1922 : decode cL_law 1922 = .ok (.i2l, 1) := by decide +kernel
theorem dL_law_1923 : decode cL_law 1923 = .ok (.lcmp, 1) := by decide +kernel
theorem dL_law_1924 : decode cL_law 1924 = .ok (.ifCond .eq 5, 3) := by decide +kernel
theorem dL_law_1927 : decode cL_law 1927 = .ok (.iconst 0, 1) := by decide +kernel
theorem dL_law_1928 : decode cL_law 1928 = .ok (.ireturn, 1) := by decide +kernel
theorem dL_law_1929 : decode cL_law 1929 = .ok (.goto 73, 3) := by decide +kernel
theorem dL_law_1932 : decode cL_law 1932 = .ok (.aload_n 1, 1) := by decide +kernel
theorem dL_law_1933 : decode cL_law 1933 = .ok (.aload_n 0, 1) := by decide +kernel
theorem dL_law_1934 : decode cL_law 1934 = .ok (.iload 5, 2) := by decide +kernel
theorem dL_law_1936 : decode cL_law 1936 = .ok (.iconst 1, 1) := by decide +kernel
theorem dL_law_1937 : decode cL_law 1937 = .ok (.iadd, 1) := by decide +kernel
theorem dL_law_1938 : decode cL_law 1938 = .ok (.iaload, 1) := by decide +kernel
theorem dL_law_1939 : decode cL_law 1939 = .ok (.aload_n 3, 1) := by decide +kernel
theorem dL_law_1940 : decode cL_law 1940 = .ok (.invokestatic 203, 3) := by decide +kernel
theorem dL_law_1943 : decode cL_law 1943 = .ok (.istore 6, 2) := by decide +kernel
theorem dL_law_1945 : decode cL_law 1945 = .ok (.aload_n 2, 1) := by decide +kernel
theorem dL_law_1946 : decode cL_law 1946 = .ok (.aload_n 0, 1) := by decide +kernel
theorem dL_law_1947 : decode cL_law 1947 = .ok (.iload 5, 2) := by decide +kernel
theorem dL_law_1949 : decode cL_law 1949 = .ok (.iconst 1, 1) := by decide +kernel
theorem dL_law_1950 : decode cL_law 1950 = .ok (.iadd, 1) := by decide +kernel
theorem dL_law_1951 : decode cL_law 1951 = .ok (.iaload, 1) := by decide +kernel
theorem dL_law_1952 : decode cL_law 1952 = .ok (.invokevirtual 205, 3) := by decide +kernel
theorem dL_law_1955 : decode cL_law 1955 = .ok (.istore 7, 2) := by decide +kernel
theorem dL_law_1957 : decode cL_law 1957 = .ok (.aload_n 2, 1) := by decide +kernel
theorem dL_law_1958 : decode cL_law 1958 = .ok (.invokevirtual 110, 3) := by decide +kernel
theorem dL_law_1961 : decode cL_law 1961 = .ok (.iload 6, 2) := by decide +kernel
theorem dL_law_1963 : decode cL_law 1963 = .ok (.if_icmp .eq 5, 3) := by decide +kernel
theorem dL_law_1966 : decode cL_law 1966 = .ok (.iconst 0, 1) := by decide +kernel
theorem dL_law_1967 : decode cL_law 1967 = .ok (.ireturn, 1) := by decide +kernel
theorem dL_law_1968 : decode cL_law 1968 = .ok (.iload 6, 2) := by decide +kernel
theorem dL_law_1970 : decode cL_law 1970 = .ok (.ifCond .ne 15, 3) := by decide +kernel
theorem dL_law_1973 : decode cL_law 1973 = .ok (.aload_n 3, 1) := by decide +kernel
theorem dL_law_1974 : decode cL_law 1974 = .ok (.iconst 0, 1) := by decide +kernel
theorem dL_law_1975 : decode cL_law 1975 = .ok (.laload, 1) := by decide +kernel
theorem dL_law_1976 : decode cL_law 1976 = .ok (.iload 7, 2) := by decide +kernel
theorem dL_law_1978 : decode cL_law 1978 = .ok (.i2l, 1) := by decide +kernel
theorem dL_law_1979 : decode cL_law 1979 = .ok (.lcmp, 1) := by decide +kernel
theorem dL_law_1980 : decode cL_law 1980 = .ok (.ifCond .eq 5, 3) := by decide +kernel
theorem dL_law_1983 : decode cL_law 1983 = .ok (.iconst 0, 1) := by decide +kernel
theorem dL_law_1984 : decode cL_law 1984 = .ok (.ireturn, 1) := by decide +kernel
theorem dL_law_1985 : decode cL_law 1985 = .ok (.goto 17, 3) := by decide +kernel
theorem dL_law_1988 : decode cL_law 1988 = .ok (.aload_n 1, 1) := by decide +kernel
theorem dL_law_1989 : decode cL_law 1989 = .ok (.invokevirtual 206, 3) := by decide +kernel
theorem dL_law_1992 : decode cL_law 1992 = .ok (.aload_n 2, 1) := by decide +kernel
theorem dL_law_1993 : decode cL_law 1993 = .ok (.invokevirtual 210, 3) := by decide +kernel
theorem dL_law_1996 : decode cL_law 1996 = .ok (.lcmp, 1) := by decide +kernel
theorem dL_law_1997 : decode cL_law 1997 = .ok (.ifCond .eq 5, 3) := by decide +kernel
theorem dL_law_2000 : decode cL_law 2000 = .ok (.iconst 0, 1) := by decide +kernel
theorem dL_law_2001 : decode cL_law 2001 = .ok (.ireturn, 1) := by decide +kernel
theorem dL_law_2002 : decode cL_law 2002 = .ok (.iinc 5 6, 3) := by decide +kernel
theorem dL_law_2005 : decode cL_law 2005 = .ok (.goto (-1977), 3) := by decide +kernel
theorem dL_law_2008 : decode cL_law 2008 = .ok (.iconst 1, 1) := by decide +kernel
theorem dL_law_2009 : decode cL_law 2009 = .ok (.ireturn, 1) := by decide +kernel
end
section
/-! THE WRAPPED JUDGEMENT. An abstract heap (HM) says of addresses what they hold; PW: the machine's heap holds it. WW: from here the machine comes to a state with the context's post. -/
abbrev HM : Type := Nat → Option va_E
def hu (h : HM) (a : Nat) (e : va_E) : HM := fun b => if b = a then some e else h b
theorem hu_self (h : HM) (a : Nat) (e : va_E) : hu h a e a = some e := by simp [hu]
theorem hu_ne (h : HM) {a b : Nat} (e : va_E) (n : b ≠ a) : hu h a e b = h b := by simp [hu, n]
/-- another address: what is held tells them apart -/
theorem hu_o {h : HM} {a b : Nat} {e e0 x : va_E} (hb : h b = some x) (ha : h a = some e0) (n : x ≠ e0) : hu h a e b = some x := by
  rw [hu_ne _ _ (fun z => n (Option.some.inj (hb.symm.trans (by rw [z]; exact ha))))]; exact hb
theorem hu_n {h : HM} {a b : Nat} {e x : va_E} (hb : h b = some x) (ha : h a = none) : hu h a e b = some x := by
  rw [hu_ne _ _ (fun z => by rw [z, ha] at hb; cases hb)]; exact hb
def dm (h : HM) (sz : Nat) : Nat → Prop := fun q => (∃ e, h q = some e) ∨ sz ≤ q
def PW (D : va_G) (A : Nat → Prop) (h : HM) (H : Heap) : Prop := ∃ (L : List Nat) (f : Nat → va_E), (∀ a e, h a = some e → a ∈ L ∧ f a = e) ∧ va_P D vwCl (va_pl L f) H ∧ va_D A (va_pl L f)
theorem va_P_mem {D : va_G} {cl : List vw_C} {ws : va_W} {H : Heap} : va_P D cl ws H ↔ ∀ q ∈ ws, va_at D cl q H := by
  constructor
  · intro h q hq
    obtain ⟨k, hk⟩ := List.getElem?_of_mem hq
    exact h k q hk
  · intro h k q hk
    exact h q (List.mem_of_getElem? hk)
theorem pl_D_iff {A : Nat → Prop} {L : List Nat} {f : Nat → va_E} : va_D A (va_pl L f) ↔ L.Nodup ∧ ∀ a ∈ L, A a := by
  constructor
  · intro h
    constructor
    · refine List.pairwise_iff_getElem.mpr ?_
      intro i j hi hj hij e
      have e1 : L[i]? = some L[i] := List.getElem?_eq_getElem hi
      have e2 : L[j]? = some L[i] := by rw [e]; exact List.getElem?_eq_getElem hj
      have := h.1 i j (L[i], f L[i]) (L[i], f L[i]) (by simp [va_pl, e1]) (by simp [va_pl, e2]) rfl
      omega
    · intro a ha
      obtain ⟨k, hk⟩ := List.getElem?_of_mem ha
      exact h.2 k (a, f a) (by simp [va_pl, hk])
  · intro ⟨hn, hA⟩
    constructor
    · intro i j p q hi hj e
      simp only [va_pl, List.getElem?_map, Option.map_eq_some_iff] at hi hj
      obtain ⟨a, ha, rfl⟩ := hi
      obtain ⟨b, hb, rfl⟩ := hj
      have e : a = b := e
      subst e
      have hi' : i < L.length := (List.getElem?_eq_some_iff.mp ha).1
      have hj' : j < L.length := (List.getElem?_eq_some_iff.mp hb).1
      have hn := List.pairwise_iff_getElem.mp hn
      have ea : L[i] = a := (List.getElem?_eq_some_iff.mp ha).2
      have eb : L[j] = a := (List.getElem?_eq_some_iff.mp hb).2
      rcases Nat.lt_trichotomy i j with q | q | q
      · exact absurd (ea.trans eb.symm) (hn i j hi' hj' q)
      · exact q
      · exact absurd (eb.trans ea.symm) (hn j i hj' hi' q)
    · intro k q hk
      simp only [va_pl, List.getElem?_map, Option.map_eq_some_iff] at hk
      obtain ⟨a, ha, rfl⟩ := hk
      exact hA a (List.mem_of_getElem? ha)
section PWS
variable {D : va_G} {A B : Nat → Prop} {h : HM} {H : Heap} {a : Nat} {e : va_E}
theorem PW.cell (hP : PW D A h H) (ha : h a = some e) : va_at D vwCl (a, e) H := by
  obtain ⟨L, f, h1, h2, -⟩ := hP
  obtain ⟨m, rfl⟩ := h1 a e ha
  exact va_P_mem.mp h2 (a, f a) (List.mem_map.mpr ⟨a, m, rfl⟩)
theorem PW.lt (hP : PW D A h H) (ha : h a = some e) : a < H.size := (hP.cell ha).lt
theorem PW.inA (hP : PW D A h H) (ha : h a = some e) : A a := by
  obtain ⟨L, f, h1, -, h3⟩ := hP
  exact (pl_D_iff.mp h3).2 a (h1 a e ha).1
theorem PW.weaken (hP : PW D A h H) (hB : ∀ a e, h a = some e → B a) : PW D B h H := by
  obtain ⟨L, f, h1, h2, h3⟩ := hP
  refine ⟨L.filter (fun a => (h a).isSome), f, fun a e ha => ⟨List.mem_filter.mpr ⟨(h1 a e ha).1, by rw [ha]; rfl⟩, (h1 a e ha).2⟩, ?_, pl_D_iff.mpr ⟨(pl_D_iff.mp h3).1.filter _, fun a ha => ?_⟩⟩
  · refine va_P_mem.mpr (fun q hq => va_P_mem.mp h2 q ?_)
    obtain ⟨a, ha, rfl⟩ := List.mem_map.mp hq
    exact List.mem_map.mpr ⟨a, (List.mem_filter.mp ha).1, rfl⟩
  · have := (List.mem_filter.mp ha).2
    cases hh : h a with
    | none => rw [hh] at this; cases this
    | some e => exact hB a e hh
theorem PW.part {h1 : HM} (hP : PW D A h H) (hs : ∀ a e, h1 a = some e → h a = some e) : PW D A h1 H := by
  obtain ⟨L, f, g1, g2, g3⟩ := hP
  exact ⟨L, f, fun a e ha => g1 a e (hs a e ha), g2, g3⟩
/-- one cell out, with the whole as the kit's rows want it -/
theorem PW.cel1 (hP : PW D A h H) (ha : h a = some e) : ∃ (ws : va_W) (k : Nat), ws[k]? = some (a, e) ∧ va_P D vwCl ws H ∧ va_D A ws ∧ ∀ (e' : va_E) (H' : Heap), va_P D vwCl (ws.set k (a, e')) H' → va_D A (ws.set k (a, e')) → PW D A (hu h a e') H' := by
  obtain ⟨L, f, h1, h2, h3⟩ := hP
  obtain ⟨m, rfl⟩ := h1 a e ha
  obtain ⟨k, hk⟩ := va_pl_get (X := []) (f := f) m
  rw [List.nil_append] at hk
  refine ⟨va_pl L f, k, hk, h2, h3, fun e' H' p1 p2 => ?_⟩
  have e1 := va_pl_set (X := []) (e := e') (by rw [List.nil_append]; exact h3) m (by rw [List.nil_append]; exact hk)
  rw [List.nil_append, List.nil_append] at e1
  rw [e1] at p1 p2
  refine ⟨L, va_up f a e', fun b x hb => ?_, p1, p2⟩
  by_cases hba : b = a
  · subst hba
    rw [hu_self] at hb
    cases hb
    exact ⟨m, va_up_self ..⟩
  · rw [hu_ne _ _ hba] at hb
    exact ⟨(h1 b x hb).1, by rw [va_up_ne _ _ hba]; exact (h1 b x hb).2⟩
/-- two cells out -/
theorem PW.cel2 {b : Nat} {x : va_E} (hP : PW D A h H) (ha : h a = some e) (hb : h b = some x) : ∃ (ws : va_W) (k j : Nat), ws[k]? = some (a, e) ∧ ws[j]? = some (b, x) ∧ va_P D vwCl ws H ∧ va_D A ws ∧ ∀ (e' : va_E) (H' : Heap), va_P D vwCl (ws.set k (a, e')) H' → va_D A (ws.set k (a, e')) → PW D A (hu h a e') H' := by
  obtain ⟨L, f, h1, h2, h3⟩ := id hP
  obtain ⟨m, rfl⟩ := h1 a e ha
  obtain ⟨m2, rfl⟩ := h1 b x hb
  obtain ⟨k, hk⟩ := va_pl_get (X := []) (f := f) m
  obtain ⟨j, hj⟩ := va_pl_get (X := []) (f := f) m2
  rw [List.nil_append] at hk hj
  refine ⟨va_pl L f, k, j, hk, hj, h2, h3, fun e' H' p1 p2 => ?_⟩
  have e1 := va_pl_set (X := []) (e := e') (by rw [List.nil_append]; exact h3) m (by rw [List.nil_append]; exact hk)
  rw [List.nil_append, List.nil_append] at e1
  rw [e1] at p1 p2
  refine ⟨L, va_up f a e', fun b x hb => ?_, p1, p2⟩
  by_cases hba : b = a
  · subst hba
    rw [hu_self] at hb
    cases hb
    exact ⟨m, va_up_self ..⟩
  · rw [hu_ne _ _ hba] at hb
    exact ⟨(h1 b x hb).1, by rw [va_up_ne _ _ hba]; exact (h1 b x hb).2⟩
/-- all of it, for what is made -/
theorem PW.celn (hP : PW D A h H) : ∃ ws : va_W, va_P D vwCl ws H ∧ va_D A ws ∧ ∀ (q : Nat) (e' : va_E) (H' : Heap), va_P D vwCl (ws ++ [(q, e')]) H' → va_D A (ws ++ [(q, e')]) → h q = none ∧ PW D A (hu h q e') H' := by
  obtain ⟨L, f, h1, h2, h3⟩ := hP
  refine ⟨va_pl L f, h2, h3, fun q e' H' p1 p2 => ?_⟩
  have hq : q ∉ L := fun m => by
    obtain ⟨k, hk⟩ := List.getElem?_of_mem (show (q, f q) ∈ va_pl L f from List.mem_map.mpr ⟨q, m, rfl⟩)
    have hl := (List.getElem?_eq_some_iff.mp hk).1
    have := p2.1 k (va_pl L f).length (q, f q) (q, e') (by rw [List.getElem?_append_left hl]; exact hk) (by simp) rfl
    omega
  have hn : h q = none := by
    cases hh : h q with
    | none => rfl
    | some e => exact absurd (h1 q e hh).1 hq
  rw [va_pl_push hq] at p1 p2
  refine ⟨hn, L ++ [q], va_up f q e', fun b x hb => ?_, p1, p2⟩
  by_cases hba : b = q
  · subst hba
    rw [hu_self] at hb
    cases hb
    exact ⟨List.mem_append_right _ (List.mem_singleton.mpr rfl), va_up_self ..⟩
  · rw [hu_ne _ _ hba] at hb
    exact ⟨List.mem_append_left _ (h1 b x hb).1, by rw [va_up_ne _ _ hba]; exact (h1 b x hb).2⟩
theorem PW.empty : PW D A (fun _ => none) H := ⟨[], fun _ => .inr (0, []), fun a e (h : none = some e) => (by cases h), va_P_mem.mpr (fun q (h : q ∈ []) => absurd h List.not_mem_nil), pl_D_iff.mpr ⟨List.nodup_nil, fun a h => absurd h List.not_mem_nil⟩⟩
end PWS
/-- two heaps side by side: the first where it says something -/
def hj (h1 h2 : HM) : HM := fun a => match h1 a with
  | some e => some e
  | none => h2 a
theorem hj_l {h1 h2 : HM} {a : Nat} {e : va_E} (h : h1 a = some e) : hj h1 h2 a = some e := by simp [hj, h]
theorem hj_r {h1 h2 : HM} {a : Nat} {e : va_E} (h : h2 a = some e) (n : h1 a = none) : hj h1 h2 a = some e := by simp [hj, h, n]
theorem PW.join {D : va_G} {A A1 : Nat → Prop} {h1 h1' h2 : HM} {H H1 : Heap} (hP : PW D A (hj h1 h2) H) (hx : ∀ a e, h2 a = some e → h1 a = none) (hA1 : ∀ q, A1 q ↔ dm h1 H.size q) (hA : ∀ q, H.size ≤ q → A q)
    (hk : ∀ q : Nat, q < H.size → ¬ A1 q → H1[q]? = H[q]?) (hP1 : PW D A1 h1' H1) : PW D A (hj h1' h2) H1 ∧ ∀ a e, h2 a = some e → h1' a = none := by
  have key : ∀ a e, h2 a = some e → a < H.size ∧ ¬ A1 a := by
    intro a e ha
    have hl := hP.lt (hj_r ha (hx a e ha))
    refine ⟨hl, fun z => ?_⟩
    rcases (hA1 a).mp z with ⟨x, hx'⟩ | z
    · rw [hx a e ha] at hx'; cases hx'
    · omega
  have hno : ∀ a e, h2 a = some e → h1' a = none := by
    intro a e ha
    cases hh : h1' a with
    | none => rfl
    | some x => exact absurd (hP1.inA hh) (key a e ha).2
  refine ⟨?_, hno⟩
  obtain ⟨L1, f1, p1, p2, p3⟩ := hP1.weaken (B := fun q => (h1' q).isSome ∧ A1 q) (fun a e ha => ⟨by rw [ha]; rfl, hP1.inA ha⟩)
  obtain ⟨L2, f2, q1, q2, q3⟩ := (hP.part (h1 := h2) (fun a e ha => hj_r ha (hx a e ha))).weaken (B := fun q => (h2 q).isSome ∧ A q) (fun a e ha => ⟨by rw [ha]; rfl, hP.inA (hj_r ha (hx a e ha))⟩)
  have d1 := pl_D_iff.mp p3
  have d2 := pl_D_iff.mp q3
  have apart : ∀ a ∈ L1, a ∉ L2 := by
    intro a h1m h2m
    have e1 := (d1.2 a h1m).1
    have e2 := (d2.2 a h2m).1
    cases hh : h2 a with
    | none => rw [hh] at e2; cases e2
    | some x => rw [hno a x hh] at e1; cases e1
  refine ⟨L1 ++ L2, fun a => if a ∈ L1 then f1 a else f2 a, fun a e ha => ?_, va_P_mem.mpr (fun q hq => ?_), pl_D_iff.mpr ⟨List.nodup_append.mpr ⟨d1.1, d2.1, fun a ha b hb e => apart a ha (by rw [e]; exact hb)⟩, fun a ha => ?_⟩⟩
  · simp only [hj] at ha
    cases hh : h1' a with
    | some x =>
      rw [hh] at ha
      cases ha
      have := p1 a e hh
      exact ⟨List.mem_append_left _ this.1, by show (if a ∈ L1 then f1 a else f2 a) = e; rw [if_pos this.1]; exact this.2⟩
    | none =>
      rw [hh] at ha
      have := q1 a e ha
      have hn : a ∉ L1 := fun z => apart a z this.1
      exact ⟨List.mem_append_right _ this.1, by show (if a ∈ L1 then f1 a else f2 a) = e; rw [if_neg hn]; exact this.2⟩
  · obtain ⟨a, ha, rfl⟩ := List.mem_map.mp hq
    rcases List.mem_append.mp ha with h | h
    · show va_at D vwCl (a, if a ∈ L1 then f1 a else f2 a) H1
      rw [if_pos h]
      exact va_P_mem.mp p2 (a, f1 a) (List.mem_map.mpr ⟨a, h, rfl⟩)
    · have hn : a ∉ L1 := fun z => apart a z h
      show va_at D vwCl (a, if a ∈ L1 then f1 a else f2 a) H1
      rw [if_neg hn]
      have h9 := va_P_mem.mp q2 (a, f2 a) (List.mem_map.mpr ⟨a, h, rfl⟩)
      have e2 := (d2.2 a h).1
      cases hh : h2 a with
      | none => rw [hh] at e2; cases e2
      | some x =>
        obtain ⟨k1, k2⟩ := key a x hh
        exact h9.kept (hk a k1 k2)
  · rcases List.mem_append.mp ha with h | h
    · have := (d1.2 a h).2
      rcases (hA1 a).mp this with ⟨x, hx'⟩ | z
      · exact hP.inA (hj_l hx')
      · exact hA a z
    · exact (d2.2 a h).2
end
section
/-- where a walk stands: the run, the method's frame, the tables' numbers, what may change, what is owed -/
abbrev KC : Type := Program × Launch × Env × Room × State × MethodId × Array Value × List Frame × Method × Code × va_G × (Nat → ClassId) × (Nat → Prop) × (State → Prop)
abbrev Kp (K : KC) : Program := K.1
abbrev Kl (K : KC) : Launch := K.2.1
abbrev Ke (K : KC) : Env := K.2.2.1
abbrev KR (K : KC) : Room := K.2.2.2.1
abbrev Ks (K : KC) : State := K.2.2.2.2.1
abbrev Km (K : KC) : MethodId := K.2.2.2.2.2.1
abbrev Kar (K : KC) : Array Value := K.2.2.2.2.2.2.1
abbrev Kbe (K : KC) : List Frame := K.2.2.2.2.2.2.2.1
abbrev Kme (K : KC) : Method := K.2.2.2.2.2.2.2.2.1
abbrev Kc (K : KC) : Code := K.2.2.2.2.2.2.2.2.2.1
abbrev KD (K : KC) : va_G := K.2.2.2.2.2.2.2.2.2.2.1
abbrev Kt (K : KC) : Nat → ClassId := K.2.2.2.2.2.2.2.2.2.2.2.1
abbrev KA (K : KC) : Nat → Prop := K.2.2.2.2.2.2.2.2.2.2.2.2.1
abbrev KQ (K : KC) : State → Prop := K.2.2.2.2.2.2.2.2.2.2.2.2.2
/-- the tables' good words -/
def lw_G : List Cond := lw_tbl.filter goodWord
theorem mem_G {w : Cond} (i : Nat) (h : lw_tbl[i]? = some w) (g : goodWord w = true) : w ∈ lw_G := List.mem_filter.mpr ⟨List.mem_of_getElem? h, g⟩
theorem G_good {w : Cond} (h : w ∈ lw_G) : goodWord w = true := (List.mem_filter.mp h).2
def lw_ws (y : MethodName) (cc : ByteArray) (nL : Nat) (ret : Option FieldType) : List Cond := .code y cc nL ret :: lw_G
/-- the kinds of arrays -/
def tysK (tc : Nat → ClassId) : List (ClassId × FieldType) := [(tc 0, .int), (tc 1, .long), (tc 2, .double), (tc 3, .object "KilnYard$Clay"), (tc 4, .object "KilnYard$Glaze"), (tc 5, .object "KilnYard$Order"), (tc 6, .object "KilnYard$Pot"), (tc 7, .object "KilnYard$Ramp"), (tc 8, .object "java/lang/Object")]
def KW (D : va_G) (tc : Nat → ClassId) (U : State) : Prop := va_K D vwCl (tysK tc) U
/-- words that hold of the tables but are none of the good ones: castable -/
def lw_cast : List Cond := lw_tbl.filter (fun w => match w with | .castable _ _ => true | _ => false)
/-- the fixed part of the heap, and the words that are not good ones -/
def cwC : Nat → Int32 := fun k => match k with | 0 => 8 | 1 => 16 | 2 => 28 | 3 => 44 | 4 => 64 | 5 => 88 | 6 => 116 | 7 => 148 | 8 => 184 | 9 => 224 | 10 => 268 | _ => 316
def nrC : Nat → UInt64 := fun k => match k with | 0 => 13846317054350589952 | 1 => 0 | _ => 4620693217682128896
def SW (tc : Nat → ClassId) (A : Nat → Prop) (U : State) (H : Heap) : Prop :=
  (va_Z "KilnYard" "CONE_WORKS" "[I" (.ref (tc 10)) A U H ∧ va_T .int (tc 10) 12 (fun j => .int (cwC j)) A U H) ∧
  (va_Z "KilnYardModel" "CONES" "[I" (.ref (tc 11)) A U H ∧ va_T .int (tc 11) 12 (fun j => .int (cwC j)) A U H) ∧
  (va_Z "KilnYardModel" "NEARER" "[D" (.ref (tc 12)) A U H ∧ va_T .double (tc 12) 3 (fun j => .double (nrC j)) A U H) ∧
  (va_Z "java/util/ArrayList" "DEFAULTCAPACITY_EMPTY_ELEMENTDATA" "[Ljava/lang/Object;" (.ref (tc 13)) A U H ∧ va_T (.object "java/lang/Object") (tc 13) 0 (fun _ => .null) A U H) ∧
  va_Z "java/lang/Math" "negativeZeroDoubleBits" "J" (.long (-9223372036854775808)) A U H ∧
  va_Z "java/lang/Math" "negativeZeroFloatBits" "J" (.long (-2147483648)) A U H ∧
  vx_Zq Bundle.tN "UNASSIGNED_STACK" Bundle.steD A U H ∧ vx_Zq Bundle.tN "SUPPRESSED_SENTINEL" Bundle.listD A U H ∧
  (∀ C T : String, Cond.castable C T ∈ lw_tbl → va_Nw (.castable C T) U) ∧
  (∀ (a : String) (i : Nat) (b n d h : String), Cond.fieldLinkNest a i b n d h ∈ lw_tbl → va_Nw (.fieldLinkNest a i b n d h) U) ∧
  (∀ (a : String) (i : Nat) (x : MethodName) (h : String), Cond.methodLinkNest a i x h ∈ lw_tbl → va_Nw (.methodLinkNest a i x h) U) ∧
  (∀ (own : String) (k : Nat) (tx : String), Cond.stringRef own k tx ∈ lw_tbl → ∃ a : Nat, vk_R own k tx a U) ∧
  va_Fw "java/util/ArrayList$Itr" ⟨"java/util/Iterator", "hasNext", "()Z"⟩ yJx35411_hasNext_aae02 U ∧ va_Fw "java/util/ArrayList$Itr" ⟨"java/util/Iterator", "next", "()Ljava/lang/Object;"⟩ yJx35411_next_0502b U ∧
  va_Fw "java/util/ArrayList" ⟨"java/util/Collection", "toArray", "()[Ljava/lang/Object;"⟩ yJx4a65c_toArray_d5877 U ∧
  va_Mi "[Ljava/lang/Object;" (tc 14) U ∧ va_Dc U ∧ va_AO "java/lang/Object" U ∧ va_AO "KilnYard$Clay" U ∧ va_AO "KilnYard$Glaze" U ∧ va_AO "KilnYard$Order" U ∧ va_AO "KilnYard$Pot" U ∧ va_AO "KilnYard$Ramp" U
/-- what stands fast through a method -/
def CX (K : KC) (own : String) (cc : ByteArray) (nL : Nat) (R : Room) : Prop :=
  (Kp K).tables.exec = Jvm.exec ∧ (Kc K).code = cc ∧ (Kc K).maxLocals = nL ∧ (Ks K).vm.findClass own = some (Km K).cls ∧ (∀ w ∈ lw_G, w.before (Kar K) (Ks K) = true) ∧
  KW (KD K) (Kt K) (Ks K) ∧ (∀ q : Nat, (Ks K).heap.size ≤ q → KA K q) ∧ KR K = R ∧ SW (Kt K) (KA K) (Ks K) (Ks K).heap ∧ (Kl K).stackTraces = false
/-- the locals, place by place -/
def lvh (ls : Array Slot) (lv : List (Option Value)) : Prop := ls.size = lv.length ∧ lv_wf ls ∧ ∀ (i : Nat) (v : Value), lv[i]? = some (some v) → ls[i]? = some (.val v)
def WW (K : KC) (n : Nat × Nat) (pc : Nat) (lv : List (Option Value)) (st : List Value) (h : HM) : Prop :=
  ∀ (H : Heap) (locs : List Loc) (ls : Array Slot), PW (KD K) (KA K) h H → va_S (KA K) (Ks K).heap H locs → lvh ls lv → W (Kp K) (Kl K) (Ke K) (KR K) (Ks K) (Km K) (Kar K) (Kbe K) (Kme K) (Kc K) H locs n.1 n.2 (KQ K) (F0 (Km K) pc ls st)
theorem lvh.at {ls : Array Slot} {lv : List (Option Value)} (h : lvh ls lv) {i : Nat} {v : Value} (hi : lv[i]? = some (some v)) : ls[i]? = some (.val v) := h.2.2 i v hi
/-- what the locals are behind a store -/
def lvl : Nat → List (Option Value) → List (Nat × Value)
  | _, [] => []
  | i, none :: t => lvl (i + 1) t
  | i, some v :: t => (i, v) :: lvl (i + 1) t
theorem lvl_mem {q : Nat × Value} : ∀ {lv : List (Option Value)} {i : Nat}, q ∈ lvl i lv ↔ ∃ j, q.1 = i + j ∧ lv[j]? = some (some q.2)
  | [], i => by simp [lvl]
  | none :: t, i => by
    rw [lvl, lvl_mem (lv := t)]
    constructor
    · rintro ⟨j, h1, h2⟩
      exact ⟨j + 1, by omega, by simpa using h2⟩
    · rintro ⟨j, h1, h2⟩
      cases j with
      | zero => simp at h2
      | succ j => exact ⟨j, by omega, by simpa using h2⟩
  | some v :: t, i => by
    rw [lvl, List.mem_cons, lvl_mem (lv := t)]
    constructor
    · rintro (rfl | ⟨j, h1, h2⟩)
      · exact ⟨0, rfl, rfl⟩
      · exact ⟨j + 1, by omega, by simpa using h2⟩
    · rintro ⟨j, h1, h2⟩
      cases j with
      | zero =>
        left
        obtain ⟨a, b⟩ := q
        simp at h1 h2
        rw [h1, h2]
      | succ j => exact Or.inr ⟨j, by omega, by simpa using h2⟩
theorem lvh_has {ls : Array Slot} {lv : List (Option Value)} (h : lvh ls lv) : lv_has ls lv.length (lvl 0 lv) := ⟨h.1, h.2.1, fun q hq => by
  obtain ⟨j, h1, h2⟩ := lvl_mem.mp hq
  rw [h1, Nat.zero_add]
  exact h.2.2 j q.2 h2⟩
/-- a store of a small value at i: the place ahead holds no wide one -/
def lvOk (o : Option (Option Value)) : Prop := match o with
  | some (some v) => v.category = 1
  | _ => True
theorem lvh_set1 {ls' : Array Slot} {lv : List (Option Value)} {i : Nat} {v : Value} (hp : i = 0 ∨ ∃ j, i = j + 1 ∧ lvOk lv[j]?)
    (h : lv_has ls' lv.length ((i, v) :: (lvl 0 lv).filter (fun q => !(q.1 == i) && !(q.1 + 1 == i && q.2.category == 2)))) : lvh ls' (lv.set i (some v)) := by
  refine ⟨by rw [List.length_set]; exact h.1, h.2.1, fun j x hj => ?_⟩
  by_cases hij : i = j
  · subst hij
    have : i < lv.length := by
      have := (List.getElem?_eq_some_iff.mp hj).1
      rwa [List.length_set] at this
    rw [List.getElem?_set_self this] at hj
    cases hj
    exact h.2.2 (i, v) List.mem_cons_self
  · rw [List.getElem?_set_ne hij] at hj
    refine h.2.2 (j, x) (List.mem_cons_of_mem _ (List.mem_filter.mpr ⟨lvl_mem.mpr ⟨j, by omega, hj⟩, ?_⟩))
    simp only [Bool.and_eq_true, Bool.not_eq_true', beq_eq_false_iff_ne, ne_eq, Bool.and_eq_false_iff]
    refine ⟨fun z => hij z.symm, ?_⟩
    by_cases hj1 : j + 1 = i
    · right
      rcases hp with hp | ⟨j', h1, h2⟩
      · omega
      · have : j' = j := by omega
        subst this
        rw [hj] at h2
        intro z
        have h2 : x.category = 1 := h2
        omega
    · exact Or.inl hj1
theorem lvh_set2 {ls' : Array Slot} {lv : List (Option Value)} {i : Nat} {v : Value} (hp : i = 0 ∨ ∃ j, i = j + 1 ∧ lvOk lv[j]?)
    (h : lv_has ls' lv.length ((i, v) :: (lvl 0 lv).filter (fun q => !(q.1 == i) && (!(q.1 == i + 1) && !(q.1 + 1 == i && q.2.category == 2))))) : lvh ls' ((lv.set i (some v)).set (i + 1) none) := by
  refine ⟨by rw [List.length_set, List.length_set]; exact h.1, h.2.1, fun j x hj => ?_⟩
  by_cases hij : i + 1 = j
  · subst hij
    by_cases hl : i + 1 < (lv.set i (some v)).length
    · rw [List.getElem?_set_self hl] at hj
      cases hj
    · rw [List.getElem?_eq_none (by rw [List.length_set]; omega)] at hj
      cases hj
  · rw [List.getElem?_set_ne hij] at hj
    by_cases hij2 : i = j
    · subst hij2
      have : i < lv.length := by
        have := (List.getElem?_eq_some_iff.mp hj).1
        rwa [List.length_set] at this
      rw [List.getElem?_set_self this] at hj
      cases hj
      exact h.2.2 (i, v) List.mem_cons_self
    · rw [List.getElem?_set_ne hij2] at hj
      refine h.2.2 (j, x) (List.mem_cons_of_mem _ (List.mem_filter.mpr ⟨lvl_mem.mpr ⟨j, by omega, hj⟩, ?_⟩))
      simp only [Bool.and_eq_true, Bool.not_eq_true', beq_eq_false_iff_ne, ne_eq, Bool.and_eq_false_iff]
      refine ⟨fun z => hij2 z.symm, fun z => hij z.symm, ?_⟩
      by_cases hj1 : j + 1 = i
      · right
        rcases hp with hp | ⟨j', h1, h2⟩
        · omega
        · have : j' = j := by omega
          subst this
          rw [hj] at h2
          intro z
          have h2 : x.category = 1 := h2
          omega
      · exact Or.inl hj1
/-- fewer locals -/
def lvle : List (Option Value) → List (Option Value) → Prop
  | [], [] => True
  | none :: t, _ :: u => lvle t u
  | some v :: t, x :: u => x = some v ∧ lvle t u
  | _, _ => False
theorem lvle_at : ∀ {a b : List (Option Value)}, lvle a b → a.length = b.length ∧ ∀ (i : Nat) (v : Value), a[i]? = some (some v) → b[i]? = some (some v)
  | [], [], _ => ⟨rfl, fun i v h => by simp at h⟩
  | none :: t, x :: u, h => by
    obtain ⟨h1, h2⟩ := lvle_at (a := t) (b := u) h
    refine ⟨by simp [h1], fun i v hi => ?_⟩
    cases i with
    | zero => simp at hi
    | succ i => simpa using h2 i v (by simpa using hi)
  | some w :: t, x :: u, h => by
    obtain ⟨h0, h⟩ := h
    obtain ⟨h1, h2⟩ := lvle_at (a := t) (b := u) h
    refine ⟨by simp [h1], fun i v hi => ?_⟩
    cases i with
    | zero => simp at hi; simp [h0, hi]
    | succ i => simpa using h2 i v (by simpa using hi)
  | [], _ :: _, h => by simp [lvle] at h
  | none :: _, [], h => by simp [lvle] at h
  | some _ :: _, [], h => by simp [lvle] at h
section WWR
variable {K : KC} {n : Nat × Nat} {pc : Nat} {lv lv' : List (Option Value)} {st : List Value} {h : HM} {own : String} {cc : ByteArray} {nL : Nat} {R : Room}
theorem w_sub (k : WW K n pc lv' st h) (hl : lvle lv' lv) : WW K n pc lv st h := fun H locs ls hP hS hv => k H locs ls hP hS ⟨hv.1.trans (lvle_at hl).1.symm, hv.2.1, fun i v hi => hv.2.2 i v ((lvle_at hl).2 i v hi)⟩
theorem w_heap {h' : HM} (k : WW K n pc lv st h') (hh : ∀ a e, h' a = some e → h a = some e) : WW K n pc lv st h := fun H locs ls hP hS hv => k H locs ls (hP.part hh) hS hv
theorem w_widen {n' : Nat × Nat} (k : WW K n' pc lv st h) (h1 : n.1 ≤ n'.1) (h2 : n.2 ≤ n'.2) : WW K n pc lv st h := fun H locs ls hP hS hv => W.widen h1 h2 (k H locs ls hP hS hv)
theorem w_iconst (C : CX K own cc nL R) {i : Int} {v : Int32} (hd : decode cc pc = .ok (.iconst i, 1)) (hv : Int32.ofInt i = v) (k : WW K n (pc + 1) lv (.int v :: st) h) : WW K n pc lv st h := fun H locs ls hP hS hl => lv_iconst C.1 C.2.1 hd hv (k H locs ls hP hS hl)
theorem w_bipush (C : CX K own cc nL R) {i : Int} {v : Int32} (hd : decode cc pc = .ok (.bipush i, 2)) (hv : (Int8.ofInt i).toInt32 = v) (k : WW K n (pc + 2) lv (.int v :: st) h) : WW K n pc lv st h := fun H locs ls hP hS hl => lv_bipush C.1 C.2.1 hd hv (k H locs ls hP hS hl)
theorem w_sipush (C : CX K own cc nL R) {i : Int} {v : Int32} (hd : decode cc pc = .ok (.sipush i, 3)) (hv : (Int16.ofInt i).toInt32 = v) (k : WW K n (pc + 3) lv (.int v :: st) h) : WW K n pc lv st h := fun H locs ls hP hS hl => lv_sipush C.1 C.2.1 hd hv (k H locs ls hP hS hl)
theorem w_lconst (C : CX K own cc nL R) {i : Fin 2} {v : Int64} (hd : decode cc pc = .ok (.lconst i, 1)) (hv : Int64.ofNat (i : Nat) = v) (k : WW K n (pc + 1) lv (.long v :: st) h) : WW K n pc lv st h := fun H locs ls hP hS hl => lv_lconst C.1 C.2.1 hd hv (k H locs ls hP hS hl)
theorem w_null (C : CX K own cc nL R) (hd : decode cc pc = .ok (.aconst_null, 1)) (k : WW K n (pc + 1) lv (.null :: st) h) : WW K n pc lv st h := fun H locs ls hP hS hl => lv_null C.1 C.2.1 hd (k H locs ls hP hS hl)
theorem w_fconst0 (C : CX K own cc nL R) (hd : decode cc pc = .ok (.fconst 0, 1)) (k : WW K n (pc + 1) lv (.float FP.fconst0 :: st) h) : WW K n pc lv st h := fun H locs ls hP hS hl => lv_fconst0 C.1 C.2.1 hd (k H locs ls hP hS hl)
theorem w_fconst1 (C : CX K own cc nL R) (hd : decode cc pc = .ok (.fconst 1, 1)) (k : WW K n (pc + 1) lv (.float FP.fconst1 :: st) h) : WW K n pc lv st h := fun H locs ls hP hS hl => lv_fconst1 C.1 C.2.1 hd (k H locs ls hP hS hl)
theorem w_fconst2 (C : CX K own cc nL R) (hd : decode cc pc = .ok (.fconst 2, 1)) (k : WW K n (pc + 1) lv (.float FP.fconst2 :: st) h) : WW K n pc lv st h := fun H locs ls hP hS hl => lv_fconst2 C.1 C.2.1 hd (k H locs ls hP hS hl)
theorem w_dconst0 (C : CX K own cc nL R) (hd : decode cc pc = .ok (.dconst 0, 1)) (k : WW K n (pc + 1) lv (.double FP.dconst0 :: st) h) : WW K n pc lv st h := fun H locs ls hP hS hl => lv_dconst0 C.1 C.2.1 hd (k H locs ls hP hS hl)
theorem w_dconst1 (C : CX K own cc nL R) (hd : decode cc pc = .ok (.dconst 1, 1)) (k : WW K n (pc + 1) lv (.double FP.dconst1 :: st) h) : WW K n pc lv st h := fun H locs ls hP hS hl => lv_dconst1 C.1 C.2.1 hd (k H locs ls hP hS hl)
theorem w_ldc (C : CX K own cc nL R) {index : Nat} {v : Int32} (hw : Jvm.Cond.constant own index v ∈ lw_G) (hd : decode cc pc = .ok (.ldc index, 2)) (k : WW K n (pc + 2) lv (.int v :: st) h) : WW K n pc lv st h := fun H locs ls hP hS hl => lv_ldc C.1 C.2.1 C.2.2.2.1 (C.2.2.2.2.1 _ hw) hd (k H locs ls hP hS hl)
theorem w_ldcw (C : CX K own cc nL R) {index : Nat} {v : Int32} (hw : Jvm.Cond.constant own index v ∈ lw_G) (hd : decode cc pc = .ok (.ldc_w index, 3)) (k : WW K n (pc + 3) lv (.int v :: st) h) : WW K n pc lv st h := fun H locs ls hP hS hl => lv_ldcw C.1 C.2.1 C.2.2.2.1 (C.2.2.2.2.1 _ hw) hd (k H locs ls hP hS hl)
theorem w_ldcf (C : CX K own cc nL R) {index : Nat} {v : UInt32} (hw : Jvm.Cond.constantFloat own index v ∈ lw_G) (hd : decode cc pc = .ok (.ldc index, 2)) (k : WW K n (pc + 2) lv (.float v :: st) h) : WW K n pc lv st h := fun H locs ls hP hS hl => lv_ldcf C.1 C.2.1 C.2.2.2.1 (C.2.2.2.2.1 _ hw) hd (k H locs ls hP hS hl)
theorem w_ldc2 (C : CX K own cc nL R) {index : Nat} {v : Int64} (hw : Jvm.Cond.constantLong own index v ∈ lw_G) (hd : decode cc pc = .ok (.ldc2_w index, 3)) (k : WW K n (pc + 3) lv (.long v :: st) h) : WW K n pc lv st h := fun H locs ls hP hS hl => lv_ldc2 C.1 C.2.1 C.2.2.2.1 (C.2.2.2.2.1 _ hw) hd (k H locs ls hP hS hl)
theorem w_ldc2d (C : CX K own cc nL R) {index : Nat} {v : UInt64} (hw : Jvm.Cond.constantDouble own index v ∈ lw_G) (hd : decode cc pc = .ok (.ldc2_w index, 3)) (k : WW K n (pc + 3) lv (.double v :: st) h) : WW K n pc lv st h := fun H locs ls hP hS hl => lv_ldc2d C.1 C.2.1 C.2.2.2.1 (C.2.2.2.2.1 _ hw) hd (k H locs ls hP hS hl)
theorem w_iload_n (C : CX K own cc nL R) {i : Fin 4} {x : Int32} (hd : decode cc pc = .ok (.iload_n i, 1)) (hl9 : lv[(i : Nat)]? = some (some (.int x))) (k : WW K n (pc + 1) lv (.int x :: st) h) : WW K n pc lv st h := fun H locs ls hP hS hl => lv_iload_n C.1 C.2.1 hd rfl (hl.at hl9) (k H locs ls hP hS hl)
theorem w_iload (C : CX K own cc nL R) {i : Nat} {x : Int32} (hd : decode cc pc = .ok (.iload i, 2)) (hl9 : lv[i]? = some (some (.int x))) (k : WW K n (pc + 2) lv (.int x :: st) h) : WW K n pc lv st h := fun H locs ls hP hS hl => lv_iload C.1 C.2.1 hd (hl.at hl9) (k H locs ls hP hS hl)
theorem w_lload_n (C : CX K own cc nL R) {i : Fin 4} {x : Int64} (hd : decode cc pc = .ok (.lload_n i, 1)) (hl9 : lv[(i : Nat)]? = some (some (.long x))) (k : WW K n (pc + 1) lv (.long x :: st) h) : WW K n pc lv st h := fun H locs ls hP hS hl => lv_lload_n C.1 C.2.1 hd rfl (hl.at hl9) (k H locs ls hP hS hl)
theorem w_lload (C : CX K own cc nL R) {i : Nat} {x : Int64} (hd : decode cc pc = .ok (.lload i, 2)) (hl9 : lv[i]? = some (some (.long x))) (k : WW K n (pc + 2) lv (.long x :: st) h) : WW K n pc lv st h := fun H locs ls hP hS hl => lv_lload C.1 C.2.1 hd (hl.at hl9) (k H locs ls hP hS hl)
theorem w_fload_n (C : CX K own cc nL R) {i : Fin 4} {x : UInt32} (hd : decode cc pc = .ok (.fload_n i, 1)) (hl9 : lv[(i : Nat)]? = some (some (.float x))) (k : WW K n (pc + 1) lv (.float x :: st) h) : WW K n pc lv st h := fun H locs ls hP hS hl => lv_fload_n C.1 C.2.1 hd rfl (hl.at hl9) (k H locs ls hP hS hl)
theorem w_fload (C : CX K own cc nL R) {i : Nat} {x : UInt32} (hd : decode cc pc = .ok (.fload i, 2)) (hl9 : lv[i]? = some (some (.float x))) (k : WW K n (pc + 2) lv (.float x :: st) h) : WW K n pc lv st h := fun H locs ls hP hS hl => lv_fload C.1 C.2.1 hd (hl.at hl9) (k H locs ls hP hS hl)
theorem w_dload_n (C : CX K own cc nL R) {i : Fin 4} {x : UInt64} (hd : decode cc pc = .ok (.dload_n i, 1)) (hl9 : lv[(i : Nat)]? = some (some (.double x))) (k : WW K n (pc + 1) lv (.double x :: st) h) : WW K n pc lv st h := fun H locs ls hP hS hl => lv_dload_n C.1 C.2.1 hd rfl (hl.at hl9) (k H locs ls hP hS hl)
theorem w_dload (C : CX K own cc nL R) {i : Nat} {x : UInt64} (hd : decode cc pc = .ok (.dload i, 2)) (hl9 : lv[i]? = some (some (.double x))) (k : WW K n (pc + 2) lv (.double x :: st) h) : WW K n pc lv st h := fun H locs ls hP hS hl => lv_dload C.1 C.2.1 hd (hl.at hl9) (k H locs ls hP hS hl)
theorem w_aload_n (C : CX K own cc nL R) {i : Fin 4} {x : Nat} (hd : decode cc pc = .ok (.aload_n i, 1)) (hl9 : lv[(i : Nat)]? = some (some (.ref x))) (k : WW K n (pc + 1) lv (.ref x :: st) h) : WW K n pc lv st h := fun H locs ls hP hS hl => lv_aload_n C.1 C.2.1 hd rfl (hl.at hl9) (k H locs ls hP hS hl)
theorem w_aload (C : CX K own cc nL R) {i : Nat} {x : Nat} (hd : decode cc pc = .ok (.aload i, 2)) (hl9 : lv[i]? = some (some (.ref x))) (k : WW K n (pc + 2) lv (.ref x :: st) h) : WW K n pc lv st h := fun H locs ls hP hS hl => lv_aload C.1 C.2.1 hd (hl.at hl9) (k H locs ls hP hS hl)
theorem w_aload_nN (C : CX K own cc nL R) {i : Fin 4} (hd : decode cc pc = .ok (.aload_n i, 1)) (hl9 : lv[(i : Nat)]? = some (some .null)) (k : WW K n (pc + 1) lv (.null :: st) h) : WW K n pc lv st h := fun H locs ls hP hS hl => lv_aload_nN C.1 C.2.1 hd rfl (hl.at hl9) (k H locs ls hP hS hl)
theorem w_aloadN (C : CX K own cc nL R) {i : Nat} (hd : decode cc pc = .ok (.aload i, 2)) (hl9 : lv[i]? = some (some .null)) (k : WW K n (pc + 2) lv (.null :: st) h) : WW K n pc lv st h := fun H locs ls hP hS hl => lv_aloadN C.1 C.2.1 hd (hl.at hl9) (k H locs ls hP hS hl)
theorem w_istore_n0 (C : CX K own cc nL R) {i9 : Fin 4} {i : Nat} {x : Int32} (hd : decode cc pc = .ok (.istore_n i9, 1)) (hi : (i9 : Nat) = i) (hlt : i < lv.length) (hp : i = 0 ∨ ∃ j, i = j + 1 ∧ lvOk lv[j]?) (k : WW K n (pc + 1) (lv.set i (some (.int x))) st h) : WW K n pc lv (.int x :: st) h := fun H locs ls hP hS hl => lv_istore_n C.1 C.2.1 hd hi (lvh_has hl) hlt rfl (fun ls' hl' => k H locs ls' hP hS (lvh_set1 hp hl'))
theorem w_istore0 (C : CX K own cc nL R) {i : Nat} {x : Int32} (hd : decode cc pc = .ok (.istore i, 2)) (hlt : i < lv.length) (hp : i = 0 ∨ ∃ j, i = j + 1 ∧ lvOk lv[j]?) (k : WW K n (pc + 2) (lv.set i (some (.int x))) st h) : WW K n pc lv (.int x :: st) h := fun H locs ls hP hS hl => lv_istore C.1 C.2.1 hd (lvh_has hl) hlt rfl (fun ls' hl' => k H locs ls' hP hS (lvh_set1 hp hl'))
theorem w_fstore_n0 (C : CX K own cc nL R) {i9 : Fin 4} {i : Nat} {x : UInt32} (hd : decode cc pc = .ok (.fstore_n i9, 1)) (hi : (i9 : Nat) = i) (hlt : i < lv.length) (hp : i = 0 ∨ ∃ j, i = j + 1 ∧ lvOk lv[j]?) (k : WW K n (pc + 1) (lv.set i (some (.float x))) st h) : WW K n pc lv (.float x :: st) h := fun H locs ls hP hS hl => lv_fstore_n C.1 C.2.1 hd hi (lvh_has hl) hlt rfl (fun ls' hl' => k H locs ls' hP hS (lvh_set1 hp hl'))
theorem w_fstore0 (C : CX K own cc nL R) {i : Nat} {x : UInt32} (hd : decode cc pc = .ok (.fstore i, 2)) (hlt : i < lv.length) (hp : i = 0 ∨ ∃ j, i = j + 1 ∧ lvOk lv[j]?) (k : WW K n (pc + 2) (lv.set i (some (.float x))) st h) : WW K n pc lv (.float x :: st) h := fun H locs ls hP hS hl => lv_fstore C.1 C.2.1 hd (lvh_has hl) hlt rfl (fun ls' hl' => k H locs ls' hP hS (lvh_set1 hp hl'))
theorem w_astore_n0 (C : CX K own cc nL R) {i9 : Fin 4} {i : Nat} {x : Nat} (hd : decode cc pc = .ok (.astore_n i9, 1)) (hi : (i9 : Nat) = i) (hlt : i < lv.length) (hp : i = 0 ∨ ∃ j, i = j + 1 ∧ lvOk lv[j]?) (k : WW K n (pc + 1) (lv.set i (some (.ref x))) st h) : WW K n pc lv (.ref x :: st) h := fun H locs ls hP hS hl => lv_astore_n C.1 C.2.1 hd hi (lvh_has hl) hlt rfl (fun ls' hl' => k H locs ls' hP hS (lvh_set1 hp hl'))
theorem w_astore0 (C : CX K own cc nL R) {i : Nat} {x : Nat} (hd : decode cc pc = .ok (.astore i, 2)) (hlt : i < lv.length) (hp : i = 0 ∨ ∃ j, i = j + 1 ∧ lvOk lv[j]?) (k : WW K n (pc + 2) (lv.set i (some (.ref x))) st h) : WW K n pc lv (.ref x :: st) h := fun H locs ls hP hS hl => lv_astore C.1 C.2.1 hd (lvh_has hl) hlt rfl (fun ls' hl' => k H locs ls' hP hS (lvh_set1 hp hl'))
theorem w_lstore_n0 (C : CX K own cc nL R) {i9 : Fin 4} {i : Nat} {x : Int64} (hd : decode cc pc = .ok (.lstore_n i9, 1)) (hi : (i9 : Nat) = i) (hlt : i + 1 < lv.length) (hp : i = 0 ∨ ∃ j, i = j + 1 ∧ lvOk lv[j]?) (k : WW K n (pc + 1) ((lv.set i (some (.long x))).set (i + 1) none) st h) : WW K n pc lv (.long x :: st) h := fun H locs ls hP hS hl => lv_lstore_n C.1 C.2.1 hd hi (lvh_has hl) hlt rfl (fun ls' hl' => k H locs ls' hP hS (lvh_set2 hp hl'))
theorem w_lstore0 (C : CX K own cc nL R) {i : Nat} {x : Int64} (hd : decode cc pc = .ok (.lstore i, 2)) (hlt : i + 1 < lv.length) (hp : i = 0 ∨ ∃ j, i = j + 1 ∧ lvOk lv[j]?) (k : WW K n (pc + 2) ((lv.set i (some (.long x))).set (i + 1) none) st h) : WW K n pc lv (.long x :: st) h := fun H locs ls hP hS hl => lv_lstore C.1 C.2.1 hd (lvh_has hl) hlt rfl (fun ls' hl' => k H locs ls' hP hS (lvh_set2 hp hl'))
theorem w_dstore_n0 (C : CX K own cc nL R) {i9 : Fin 4} {i : Nat} {x : UInt64} (hd : decode cc pc = .ok (.dstore_n i9, 1)) (hi : (i9 : Nat) = i) (hlt : i + 1 < lv.length) (hp : i = 0 ∨ ∃ j, i = j + 1 ∧ lvOk lv[j]?) (k : WW K n (pc + 1) ((lv.set i (some (.double x))).set (i + 1) none) st h) : WW K n pc lv (.double x :: st) h := fun H locs ls hP hS hl => lv_dstore_n C.1 C.2.1 hd hi (lvh_has hl) hlt rfl (fun ls' hl' => k H locs ls' hP hS (lvh_set2 hp hl'))
theorem w_dstore0 (C : CX K own cc nL R) {i : Nat} {x : UInt64} (hd : decode cc pc = .ok (.dstore i, 2)) (hlt : i + 1 < lv.length) (hp : i = 0 ∨ ∃ j, i = j + 1 ∧ lvOk lv[j]?) (k : WW K n (pc + 2) ((lv.set i (some (.double x))).set (i + 1) none) st h) : WW K n pc lv (.double x :: st) h := fun H locs ls hP hS hl => lv_dstore C.1 C.2.1 hd (lvh_has hl) hlt rfl (fun ls' hl' => k H locs ls' hP hS (lvh_set2 hp hl'))
theorem w_astore_nN0 (C : CX K own cc nL R) {i9 : Fin 4} {i : Nat} (hd : decode cc pc = .ok (.astore_n i9, 1)) (hi : (i9 : Nat) = i) (hlt : i < lv.length) (hp : i = 0 ∨ ∃ j, i = j + 1 ∧ lvOk lv[j]?) (k : WW K n (pc + 1) (lv.set i (some .null)) st h) : WW K n pc lv (.null :: st) h := fun H locs ls hP hS hl => lv_astore_nN C.1 C.2.1 hd hi (lvh_has hl) hlt rfl (fun ls' hl' => k H locs ls' hP hS (lvh_set1 hp hl'))
theorem w_astoreN0 (C : CX K own cc nL R) {i : Nat} (hd : decode cc pc = .ok (.astore i, 2)) (hlt : i < lv.length) (hp : i = 0 ∨ ∃ j, i = j + 1 ∧ lvOk lv[j]?) (k : WW K n (pc + 2) (lv.set i (some .null)) st h) : WW K n pc lv (.null :: st) h := fun H locs ls hP hS hl => lv_astoreN C.1 C.2.1 hd (lvh_has hl) hlt rfl (fun ls' hl' => k H locs ls' hP hS (lvh_set1 hp hl'))
theorem w_iinc0 (C : CX K own cc nL R) {i : Nat} {d : Int} {x v : Int32} (hd : decode cc pc = .ok (.iinc i d, 3)) (hx : lv[i]? = some (some (.int x))) (hv : x + Int32.ofInt d = v) (hp : i = 0 ∨ ∃ j, i = j + 1 ∧ lvOk lv[j]?) (k : WW K n (pc + 3) (lv.set i (some (.int v))) st h) : WW K n pc lv st h := fun H locs ls hP hS hl => by
  obtain ⟨k9, hk9⟩ := List.getElem?_of_mem (lvl_mem (q := (i, .int x)) (lv := lv) (i := 0) |>.mpr ⟨i, by simp, hx⟩)
  exact lv_iinc C.1 C.2.1 hd (lvh_has hl) hk9 hv (List.getElem?_eq_some_iff.mp hx).1 rfl (fun ls' hl' => k H locs ls' hP hS (lvh_set1 hp hl'))
theorem w_istore_0 {b : Option Value} {t : List (Option Value)} (C : CX K own cc nL R) {x : Int32} (hd : decode cc pc = .ok (.istore_n 0, 1)) (k : WW K n (pc + 1) (some (.int x) :: t) st h) : WW K n pc (b :: t) (.int x :: st) h := w_istore_n0 (i := 0) C hd rfl (by simp) (Or.inl rfl) k
theorem w_istore_1 {a0 b : Option Value} {t : List (Option Value)} (C : CX K own cc nL R) {x : Int32} (hd : decode cc pc = .ok (.istore_n 1, 1)) (hp : lvOk (some a0)) (k : WW K n (pc + 1) (a0 :: some (.int x) :: t) st h) : WW K n pc (a0 :: b :: t) (.int x :: st) h := w_istore_n0 (i := 1) C hd rfl (by simp) (Or.inr ⟨0, rfl, hp⟩) k
theorem w_istore_2 {a0 a1 b : Option Value} {t : List (Option Value)} (C : CX K own cc nL R) {x : Int32} (hd : decode cc pc = .ok (.istore_n 2, 1)) (hp : lvOk (some a1)) (k : WW K n (pc + 1) (a0 :: a1 :: some (.int x) :: t) st h) : WW K n pc (a0 :: a1 :: b :: t) (.int x :: st) h := w_istore_n0 (i := 2) C hd rfl (by simp) (Or.inr ⟨1, rfl, hp⟩) k
theorem w_istore_3 {a0 a1 a2 b : Option Value} {t : List (Option Value)} (C : CX K own cc nL R) {x : Int32} (hd : decode cc pc = .ok (.istore_n 3, 1)) (hp : lvOk (some a2)) (k : WW K n (pc + 1) (a0 :: a1 :: a2 :: some (.int x) :: t) st h) : WW K n pc (a0 :: a1 :: a2 :: b :: t) (.int x :: st) h := w_istore_n0 (i := 3) C hd rfl (by simp) (Or.inr ⟨2, rfl, hp⟩) k
theorem w_istore_4 {a0 a1 a2 a3 b : Option Value} {t : List (Option Value)} (C : CX K own cc nL R) {x : Int32} (hd : decode cc pc = .ok (.istore 4, 2)) (hp : lvOk (some a3)) (k : WW K n (pc + 2) (a0 :: a1 :: a2 :: a3 :: some (.int x) :: t) st h) : WW K n pc (a0 :: a1 :: a2 :: a3 :: b :: t) (.int x :: st) h := w_istore0 (i := 4) C hd (by simp) (Or.inr ⟨3, rfl, hp⟩) k
theorem w_istore_5 {a0 a1 a2 a3 a4 b : Option Value} {t : List (Option Value)} (C : CX K own cc nL R) {x : Int32} (hd : decode cc pc = .ok (.istore 5, 2)) (hp : lvOk (some a4)) (k : WW K n (pc + 2) (a0 :: a1 :: a2 :: a3 :: a4 :: some (.int x) :: t) st h) : WW K n pc (a0 :: a1 :: a2 :: a3 :: a4 :: b :: t) (.int x :: st) h := w_istore0 (i := 5) C hd (by simp) (Or.inr ⟨4, rfl, hp⟩) k
theorem w_istore_6 {a0 a1 a2 a3 a4 a5 b : Option Value} {t : List (Option Value)} (C : CX K own cc nL R) {x : Int32} (hd : decode cc pc = .ok (.istore 6, 2)) (hp : lvOk (some a5)) (k : WW K n (pc + 2) (a0 :: a1 :: a2 :: a3 :: a4 :: a5 :: some (.int x) :: t) st h) : WW K n pc (a0 :: a1 :: a2 :: a3 :: a4 :: a5 :: b :: t) (.int x :: st) h := w_istore0 (i := 6) C hd (by simp) (Or.inr ⟨5, rfl, hp⟩) k
theorem w_istore_7 {a0 a1 a2 a3 a4 a5 a6 b : Option Value} {t : List (Option Value)} (C : CX K own cc nL R) {x : Int32} (hd : decode cc pc = .ok (.istore 7, 2)) (hp : lvOk (some a6)) (k : WW K n (pc + 2) (a0 :: a1 :: a2 :: a3 :: a4 :: a5 :: a6 :: some (.int x) :: t) st h) : WW K n pc (a0 :: a1 :: a2 :: a3 :: a4 :: a5 :: a6 :: b :: t) (.int x :: st) h := w_istore0 (i := 7) C hd (by simp) (Or.inr ⟨6, rfl, hp⟩) k
theorem w_istore_8 {a0 a1 a2 a3 a4 a5 a6 a7 b : Option Value} {t : List (Option Value)} (C : CX K own cc nL R) {x : Int32} (hd : decode cc pc = .ok (.istore 8, 2)) (hp : lvOk (some a7)) (k : WW K n (pc + 2) (a0 :: a1 :: a2 :: a3 :: a4 :: a5 :: a6 :: a7 :: some (.int x) :: t) st h) : WW K n pc (a0 :: a1 :: a2 :: a3 :: a4 :: a5 :: a6 :: a7 :: b :: t) (.int x :: st) h := w_istore0 (i := 8) C hd (by simp) (Or.inr ⟨7, rfl, hp⟩) k
theorem w_istore_9 {a0 a1 a2 a3 a4 a5 a6 a7 a8 b : Option Value} {t : List (Option Value)} (C : CX K own cc nL R) {x : Int32} (hd : decode cc pc = .ok (.istore 9, 2)) (hp : lvOk (some a8)) (k : WW K n (pc + 2) (a0 :: a1 :: a2 :: a3 :: a4 :: a5 :: a6 :: a7 :: a8 :: some (.int x) :: t) st h) : WW K n pc (a0 :: a1 :: a2 :: a3 :: a4 :: a5 :: a6 :: a7 :: a8 :: b :: t) (.int x :: st) h := w_istore0 (i := 9) C hd (by simp) (Or.inr ⟨8, rfl, hp⟩) k
theorem w_istore_10 {a0 a1 a2 a3 a4 a5 a6 a7 a8 a9 b : Option Value} {t : List (Option Value)} (C : CX K own cc nL R) {x : Int32} (hd : decode cc pc = .ok (.istore 10, 2)) (hp : lvOk (some a9)) (k : WW K n (pc + 2) (a0 :: a1 :: a2 :: a3 :: a4 :: a5 :: a6 :: a7 :: a8 :: a9 :: some (.int x) :: t) st h) : WW K n pc (a0 :: a1 :: a2 :: a3 :: a4 :: a5 :: a6 :: a7 :: a8 :: a9 :: b :: t) (.int x :: st) h := w_istore0 (i := 10) C hd (by simp) (Or.inr ⟨9, rfl, hp⟩) k
theorem w_fstore_0 {b : Option Value} {t : List (Option Value)} (C : CX K own cc nL R) {x : UInt32} (hd : decode cc pc = .ok (.fstore_n 0, 1)) (k : WW K n (pc + 1) (some (.float x) :: t) st h) : WW K n pc (b :: t) (.float x :: st) h := w_fstore_n0 (i := 0) C hd rfl (by simp) (Or.inl rfl) k
theorem w_fstore_1 {a0 b : Option Value} {t : List (Option Value)} (C : CX K own cc nL R) {x : UInt32} (hd : decode cc pc = .ok (.fstore_n 1, 1)) (hp : lvOk (some a0)) (k : WW K n (pc + 1) (a0 :: some (.float x) :: t) st h) : WW K n pc (a0 :: b :: t) (.float x :: st) h := w_fstore_n0 (i := 1) C hd rfl (by simp) (Or.inr ⟨0, rfl, hp⟩) k
theorem w_fstore_2 {a0 a1 b : Option Value} {t : List (Option Value)} (C : CX K own cc nL R) {x : UInt32} (hd : decode cc pc = .ok (.fstore_n 2, 1)) (hp : lvOk (some a1)) (k : WW K n (pc + 1) (a0 :: a1 :: some (.float x) :: t) st h) : WW K n pc (a0 :: a1 :: b :: t) (.float x :: st) h := w_fstore_n0 (i := 2) C hd rfl (by simp) (Or.inr ⟨1, rfl, hp⟩) k
theorem w_fstore_3 {a0 a1 a2 b : Option Value} {t : List (Option Value)} (C : CX K own cc nL R) {x : UInt32} (hd : decode cc pc = .ok (.fstore_n 3, 1)) (hp : lvOk (some a2)) (k : WW K n (pc + 1) (a0 :: a1 :: a2 :: some (.float x) :: t) st h) : WW K n pc (a0 :: a1 :: a2 :: b :: t) (.float x :: st) h := w_fstore_n0 (i := 3) C hd rfl (by simp) (Or.inr ⟨2, rfl, hp⟩) k
theorem w_fstore_4 {a0 a1 a2 a3 b : Option Value} {t : List (Option Value)} (C : CX K own cc nL R) {x : UInt32} (hd : decode cc pc = .ok (.fstore 4, 2)) (hp : lvOk (some a3)) (k : WW K n (pc + 2) (a0 :: a1 :: a2 :: a3 :: some (.float x) :: t) st h) : WW K n pc (a0 :: a1 :: a2 :: a3 :: b :: t) (.float x :: st) h := w_fstore0 (i := 4) C hd (by simp) (Or.inr ⟨3, rfl, hp⟩) k
theorem w_fstore_5 {a0 a1 a2 a3 a4 b : Option Value} {t : List (Option Value)} (C : CX K own cc nL R) {x : UInt32} (hd : decode cc pc = .ok (.fstore 5, 2)) (hp : lvOk (some a4)) (k : WW K n (pc + 2) (a0 :: a1 :: a2 :: a3 :: a4 :: some (.float x) :: t) st h) : WW K n pc (a0 :: a1 :: a2 :: a3 :: a4 :: b :: t) (.float x :: st) h := w_fstore0 (i := 5) C hd (by simp) (Or.inr ⟨4, rfl, hp⟩) k
theorem w_fstore_6 {a0 a1 a2 a3 a4 a5 b : Option Value} {t : List (Option Value)} (C : CX K own cc nL R) {x : UInt32} (hd : decode cc pc = .ok (.fstore 6, 2)) (hp : lvOk (some a5)) (k : WW K n (pc + 2) (a0 :: a1 :: a2 :: a3 :: a4 :: a5 :: some (.float x) :: t) st h) : WW K n pc (a0 :: a1 :: a2 :: a3 :: a4 :: a5 :: b :: t) (.float x :: st) h := w_fstore0 (i := 6) C hd (by simp) (Or.inr ⟨5, rfl, hp⟩) k
theorem w_fstore_7 {a0 a1 a2 a3 a4 a5 a6 b : Option Value} {t : List (Option Value)} (C : CX K own cc nL R) {x : UInt32} (hd : decode cc pc = .ok (.fstore 7, 2)) (hp : lvOk (some a6)) (k : WW K n (pc + 2) (a0 :: a1 :: a2 :: a3 :: a4 :: a5 :: a6 :: some (.float x) :: t) st h) : WW K n pc (a0 :: a1 :: a2 :: a3 :: a4 :: a5 :: a6 :: b :: t) (.float x :: st) h := w_fstore0 (i := 7) C hd (by simp) (Or.inr ⟨6, rfl, hp⟩) k
theorem w_fstore_8 {a0 a1 a2 a3 a4 a5 a6 a7 b : Option Value} {t : List (Option Value)} (C : CX K own cc nL R) {x : UInt32} (hd : decode cc pc = .ok (.fstore 8, 2)) (hp : lvOk (some a7)) (k : WW K n (pc + 2) (a0 :: a1 :: a2 :: a3 :: a4 :: a5 :: a6 :: a7 :: some (.float x) :: t) st h) : WW K n pc (a0 :: a1 :: a2 :: a3 :: a4 :: a5 :: a6 :: a7 :: b :: t) (.float x :: st) h := w_fstore0 (i := 8) C hd (by simp) (Or.inr ⟨7, rfl, hp⟩) k
theorem w_fstore_9 {a0 a1 a2 a3 a4 a5 a6 a7 a8 b : Option Value} {t : List (Option Value)} (C : CX K own cc nL R) {x : UInt32} (hd : decode cc pc = .ok (.fstore 9, 2)) (hp : lvOk (some a8)) (k : WW K n (pc + 2) (a0 :: a1 :: a2 :: a3 :: a4 :: a5 :: a6 :: a7 :: a8 :: some (.float x) :: t) st h) : WW K n pc (a0 :: a1 :: a2 :: a3 :: a4 :: a5 :: a6 :: a7 :: a8 :: b :: t) (.float x :: st) h := w_fstore0 (i := 9) C hd (by simp) (Or.inr ⟨8, rfl, hp⟩) k
theorem w_fstore_10 {a0 a1 a2 a3 a4 a5 a6 a7 a8 a9 b : Option Value} {t : List (Option Value)} (C : CX K own cc nL R) {x : UInt32} (hd : decode cc pc = .ok (.fstore 10, 2)) (hp : lvOk (some a9)) (k : WW K n (pc + 2) (a0 :: a1 :: a2 :: a3 :: a4 :: a5 :: a6 :: a7 :: a8 :: a9 :: some (.float x) :: t) st h) : WW K n pc (a0 :: a1 :: a2 :: a3 :: a4 :: a5 :: a6 :: a7 :: a8 :: a9 :: b :: t) (.float x :: st) h := w_fstore0 (i := 10) C hd (by simp) (Or.inr ⟨9, rfl, hp⟩) k
theorem w_astore_0 {b : Option Value} {t : List (Option Value)} (C : CX K own cc nL R) {x : Nat} (hd : decode cc pc = .ok (.astore_n 0, 1)) (k : WW K n (pc + 1) (some (.ref x) :: t) st h) : WW K n pc (b :: t) (.ref x :: st) h := w_astore_n0 (i := 0) C hd rfl (by simp) (Or.inl rfl) k
theorem w_astore_1 {a0 b : Option Value} {t : List (Option Value)} (C : CX K own cc nL R) {x : Nat} (hd : decode cc pc = .ok (.astore_n 1, 1)) (hp : lvOk (some a0)) (k : WW K n (pc + 1) (a0 :: some (.ref x) :: t) st h) : WW K n pc (a0 :: b :: t) (.ref x :: st) h := w_astore_n0 (i := 1) C hd rfl (by simp) (Or.inr ⟨0, rfl, hp⟩) k
theorem w_astore_2 {a0 a1 b : Option Value} {t : List (Option Value)} (C : CX K own cc nL R) {x : Nat} (hd : decode cc pc = .ok (.astore_n 2, 1)) (hp : lvOk (some a1)) (k : WW K n (pc + 1) (a0 :: a1 :: some (.ref x) :: t) st h) : WW K n pc (a0 :: a1 :: b :: t) (.ref x :: st) h := w_astore_n0 (i := 2) C hd rfl (by simp) (Or.inr ⟨1, rfl, hp⟩) k
theorem w_astore_3 {a0 a1 a2 b : Option Value} {t : List (Option Value)} (C : CX K own cc nL R) {x : Nat} (hd : decode cc pc = .ok (.astore_n 3, 1)) (hp : lvOk (some a2)) (k : WW K n (pc + 1) (a0 :: a1 :: a2 :: some (.ref x) :: t) st h) : WW K n pc (a0 :: a1 :: a2 :: b :: t) (.ref x :: st) h := w_astore_n0 (i := 3) C hd rfl (by simp) (Or.inr ⟨2, rfl, hp⟩) k
theorem w_astore_4 {a0 a1 a2 a3 b : Option Value} {t : List (Option Value)} (C : CX K own cc nL R) {x : Nat} (hd : decode cc pc = .ok (.astore 4, 2)) (hp : lvOk (some a3)) (k : WW K n (pc + 2) (a0 :: a1 :: a2 :: a3 :: some (.ref x) :: t) st h) : WW K n pc (a0 :: a1 :: a2 :: a3 :: b :: t) (.ref x :: st) h := w_astore0 (i := 4) C hd (by simp) (Or.inr ⟨3, rfl, hp⟩) k
theorem w_astore_5 {a0 a1 a2 a3 a4 b : Option Value} {t : List (Option Value)} (C : CX K own cc nL R) {x : Nat} (hd : decode cc pc = .ok (.astore 5, 2)) (hp : lvOk (some a4)) (k : WW K n (pc + 2) (a0 :: a1 :: a2 :: a3 :: a4 :: some (.ref x) :: t) st h) : WW K n pc (a0 :: a1 :: a2 :: a3 :: a4 :: b :: t) (.ref x :: st) h := w_astore0 (i := 5) C hd (by simp) (Or.inr ⟨4, rfl, hp⟩) k
theorem w_astore_6 {a0 a1 a2 a3 a4 a5 b : Option Value} {t : List (Option Value)} (C : CX K own cc nL R) {x : Nat} (hd : decode cc pc = .ok (.astore 6, 2)) (hp : lvOk (some a5)) (k : WW K n (pc + 2) (a0 :: a1 :: a2 :: a3 :: a4 :: a5 :: some (.ref x) :: t) st h) : WW K n pc (a0 :: a1 :: a2 :: a3 :: a4 :: a5 :: b :: t) (.ref x :: st) h := w_astore0 (i := 6) C hd (by simp) (Or.inr ⟨5, rfl, hp⟩) k
theorem w_astore_7 {a0 a1 a2 a3 a4 a5 a6 b : Option Value} {t : List (Option Value)} (C : CX K own cc nL R) {x : Nat} (hd : decode cc pc = .ok (.astore 7, 2)) (hp : lvOk (some a6)) (k : WW K n (pc + 2) (a0 :: a1 :: a2 :: a3 :: a4 :: a5 :: a6 :: some (.ref x) :: t) st h) : WW K n pc (a0 :: a1 :: a2 :: a3 :: a4 :: a5 :: a6 :: b :: t) (.ref x :: st) h := w_astore0 (i := 7) C hd (by simp) (Or.inr ⟨6, rfl, hp⟩) k
theorem w_astore_8 {a0 a1 a2 a3 a4 a5 a6 a7 b : Option Value} {t : List (Option Value)} (C : CX K own cc nL R) {x : Nat} (hd : decode cc pc = .ok (.astore 8, 2)) (hp : lvOk (some a7)) (k : WW K n (pc + 2) (a0 :: a1 :: a2 :: a3 :: a4 :: a5 :: a6 :: a7 :: some (.ref x) :: t) st h) : WW K n pc (a0 :: a1 :: a2 :: a3 :: a4 :: a5 :: a6 :: a7 :: b :: t) (.ref x :: st) h := w_astore0 (i := 8) C hd (by simp) (Or.inr ⟨7, rfl, hp⟩) k
theorem w_astore_9 {a0 a1 a2 a3 a4 a5 a6 a7 a8 b : Option Value} {t : List (Option Value)} (C : CX K own cc nL R) {x : Nat} (hd : decode cc pc = .ok (.astore 9, 2)) (hp : lvOk (some a8)) (k : WW K n (pc + 2) (a0 :: a1 :: a2 :: a3 :: a4 :: a5 :: a6 :: a7 :: a8 :: some (.ref x) :: t) st h) : WW K n pc (a0 :: a1 :: a2 :: a3 :: a4 :: a5 :: a6 :: a7 :: a8 :: b :: t) (.ref x :: st) h := w_astore0 (i := 9) C hd (by simp) (Or.inr ⟨8, rfl, hp⟩) k
theorem w_astore_10 {a0 a1 a2 a3 a4 a5 a6 a7 a8 a9 b : Option Value} {t : List (Option Value)} (C : CX K own cc nL R) {x : Nat} (hd : decode cc pc = .ok (.astore 10, 2)) (hp : lvOk (some a9)) (k : WW K n (pc + 2) (a0 :: a1 :: a2 :: a3 :: a4 :: a5 :: a6 :: a7 :: a8 :: a9 :: some (.ref x) :: t) st h) : WW K n pc (a0 :: a1 :: a2 :: a3 :: a4 :: a5 :: a6 :: a7 :: a8 :: a9 :: b :: t) (.ref x :: st) h := w_astore0 (i := 10) C hd (by simp) (Or.inr ⟨9, rfl, hp⟩) k
theorem w_lstore_0 {b b2 : Option Value} {t : List (Option Value)} (C : CX K own cc nL R) {x : Int64} (hd : decode cc pc = .ok (.lstore_n 0, 1)) (k : WW K n (pc + 1) (some (.long x) :: none :: t) st h) : WW K n pc (b :: b2 :: t) (.long x :: st) h := w_lstore_n0 (i := 0) C hd rfl (by simp) (Or.inl rfl) k
theorem w_lstore_1 {a0 b b2 : Option Value} {t : List (Option Value)} (C : CX K own cc nL R) {x : Int64} (hd : decode cc pc = .ok (.lstore_n 1, 1)) (hp : lvOk (some a0)) (k : WW K n (pc + 1) (a0 :: some (.long x) :: none :: t) st h) : WW K n pc (a0 :: b :: b2 :: t) (.long x :: st) h := w_lstore_n0 (i := 1) C hd rfl (by simp) (Or.inr ⟨0, rfl, hp⟩) k
theorem w_lstore_2 {a0 a1 b b2 : Option Value} {t : List (Option Value)} (C : CX K own cc nL R) {x : Int64} (hd : decode cc pc = .ok (.lstore_n 2, 1)) (hp : lvOk (some a1)) (k : WW K n (pc + 1) (a0 :: a1 :: some (.long x) :: none :: t) st h) : WW K n pc (a0 :: a1 :: b :: b2 :: t) (.long x :: st) h := w_lstore_n0 (i := 2) C hd rfl (by simp) (Or.inr ⟨1, rfl, hp⟩) k
theorem w_lstore_3 {a0 a1 a2 b b2 : Option Value} {t : List (Option Value)} (C : CX K own cc nL R) {x : Int64} (hd : decode cc pc = .ok (.lstore_n 3, 1)) (hp : lvOk (some a2)) (k : WW K n (pc + 1) (a0 :: a1 :: a2 :: some (.long x) :: none :: t) st h) : WW K n pc (a0 :: a1 :: a2 :: b :: b2 :: t) (.long x :: st) h := w_lstore_n0 (i := 3) C hd rfl (by simp) (Or.inr ⟨2, rfl, hp⟩) k
theorem w_lstore_4 {a0 a1 a2 a3 b b2 : Option Value} {t : List (Option Value)} (C : CX K own cc nL R) {x : Int64} (hd : decode cc pc = .ok (.lstore 4, 2)) (hp : lvOk (some a3)) (k : WW K n (pc + 2) (a0 :: a1 :: a2 :: a3 :: some (.long x) :: none :: t) st h) : WW K n pc (a0 :: a1 :: a2 :: a3 :: b :: b2 :: t) (.long x :: st) h := w_lstore0 (i := 4) C hd (by simp) (Or.inr ⟨3, rfl, hp⟩) k
theorem w_lstore_5 {a0 a1 a2 a3 a4 b b2 : Option Value} {t : List (Option Value)} (C : CX K own cc nL R) {x : Int64} (hd : decode cc pc = .ok (.lstore 5, 2)) (hp : lvOk (some a4)) (k : WW K n (pc + 2) (a0 :: a1 :: a2 :: a3 :: a4 :: some (.long x) :: none :: t) st h) : WW K n pc (a0 :: a1 :: a2 :: a3 :: a4 :: b :: b2 :: t) (.long x :: st) h := w_lstore0 (i := 5) C hd (by simp) (Or.inr ⟨4, rfl, hp⟩) k
theorem w_lstore_6 {a0 a1 a2 a3 a4 a5 b b2 : Option Value} {t : List (Option Value)} (C : CX K own cc nL R) {x : Int64} (hd : decode cc pc = .ok (.lstore 6, 2)) (hp : lvOk (some a5)) (k : WW K n (pc + 2) (a0 :: a1 :: a2 :: a3 :: a4 :: a5 :: some (.long x) :: none :: t) st h) : WW K n pc (a0 :: a1 :: a2 :: a3 :: a4 :: a5 :: b :: b2 :: t) (.long x :: st) h := w_lstore0 (i := 6) C hd (by simp) (Or.inr ⟨5, rfl, hp⟩) k
theorem w_lstore_7 {a0 a1 a2 a3 a4 a5 a6 b b2 : Option Value} {t : List (Option Value)} (C : CX K own cc nL R) {x : Int64} (hd : decode cc pc = .ok (.lstore 7, 2)) (hp : lvOk (some a6)) (k : WW K n (pc + 2) (a0 :: a1 :: a2 :: a3 :: a4 :: a5 :: a6 :: some (.long x) :: none :: t) st h) : WW K n pc (a0 :: a1 :: a2 :: a3 :: a4 :: a5 :: a6 :: b :: b2 :: t) (.long x :: st) h := w_lstore0 (i := 7) C hd (by simp) (Or.inr ⟨6, rfl, hp⟩) k
theorem w_lstore_8 {a0 a1 a2 a3 a4 a5 a6 a7 b b2 : Option Value} {t : List (Option Value)} (C : CX K own cc nL R) {x : Int64} (hd : decode cc pc = .ok (.lstore 8, 2)) (hp : lvOk (some a7)) (k : WW K n (pc + 2) (a0 :: a1 :: a2 :: a3 :: a4 :: a5 :: a6 :: a7 :: some (.long x) :: none :: t) st h) : WW K n pc (a0 :: a1 :: a2 :: a3 :: a4 :: a5 :: a6 :: a7 :: b :: b2 :: t) (.long x :: st) h := w_lstore0 (i := 8) C hd (by simp) (Or.inr ⟨7, rfl, hp⟩) k
theorem w_lstore_9 {a0 a1 a2 a3 a4 a5 a6 a7 a8 b b2 : Option Value} {t : List (Option Value)} (C : CX K own cc nL R) {x : Int64} (hd : decode cc pc = .ok (.lstore 9, 2)) (hp : lvOk (some a8)) (k : WW K n (pc + 2) (a0 :: a1 :: a2 :: a3 :: a4 :: a5 :: a6 :: a7 :: a8 :: some (.long x) :: none :: t) st h) : WW K n pc (a0 :: a1 :: a2 :: a3 :: a4 :: a5 :: a6 :: a7 :: a8 :: b :: b2 :: t) (.long x :: st) h := w_lstore0 (i := 9) C hd (by simp) (Or.inr ⟨8, rfl, hp⟩) k
theorem w_lstore_10 {a0 a1 a2 a3 a4 a5 a6 a7 a8 a9 b b2 : Option Value} {t : List (Option Value)} (C : CX K own cc nL R) {x : Int64} (hd : decode cc pc = .ok (.lstore 10, 2)) (hp : lvOk (some a9)) (k : WW K n (pc + 2) (a0 :: a1 :: a2 :: a3 :: a4 :: a5 :: a6 :: a7 :: a8 :: a9 :: some (.long x) :: none :: t) st h) : WW K n pc (a0 :: a1 :: a2 :: a3 :: a4 :: a5 :: a6 :: a7 :: a8 :: a9 :: b :: b2 :: t) (.long x :: st) h := w_lstore0 (i := 10) C hd (by simp) (Or.inr ⟨9, rfl, hp⟩) k
theorem w_dstore_0 {b b2 : Option Value} {t : List (Option Value)} (C : CX K own cc nL R) {x : UInt64} (hd : decode cc pc = .ok (.dstore_n 0, 1)) (k : WW K n (pc + 1) (some (.double x) :: none :: t) st h) : WW K n pc (b :: b2 :: t) (.double x :: st) h := w_dstore_n0 (i := 0) C hd rfl (by simp) (Or.inl rfl) k
theorem w_dstore_1 {a0 b b2 : Option Value} {t : List (Option Value)} (C : CX K own cc nL R) {x : UInt64} (hd : decode cc pc = .ok (.dstore_n 1, 1)) (hp : lvOk (some a0)) (k : WW K n (pc + 1) (a0 :: some (.double x) :: none :: t) st h) : WW K n pc (a0 :: b :: b2 :: t) (.double x :: st) h := w_dstore_n0 (i := 1) C hd rfl (by simp) (Or.inr ⟨0, rfl, hp⟩) k
theorem w_dstore_2 {a0 a1 b b2 : Option Value} {t : List (Option Value)} (C : CX K own cc nL R) {x : UInt64} (hd : decode cc pc = .ok (.dstore_n 2, 1)) (hp : lvOk (some a1)) (k : WW K n (pc + 1) (a0 :: a1 :: some (.double x) :: none :: t) st h) : WW K n pc (a0 :: a1 :: b :: b2 :: t) (.double x :: st) h := w_dstore_n0 (i := 2) C hd rfl (by simp) (Or.inr ⟨1, rfl, hp⟩) k
theorem w_dstore_3 {a0 a1 a2 b b2 : Option Value} {t : List (Option Value)} (C : CX K own cc nL R) {x : UInt64} (hd : decode cc pc = .ok (.dstore_n 3, 1)) (hp : lvOk (some a2)) (k : WW K n (pc + 1) (a0 :: a1 :: a2 :: some (.double x) :: none :: t) st h) : WW K n pc (a0 :: a1 :: a2 :: b :: b2 :: t) (.double x :: st) h := w_dstore_n0 (i := 3) C hd rfl (by simp) (Or.inr ⟨2, rfl, hp⟩) k
theorem w_dstore_4 {a0 a1 a2 a3 b b2 : Option Value} {t : List (Option Value)} (C : CX K own cc nL R) {x : UInt64} (hd : decode cc pc = .ok (.dstore 4, 2)) (hp : lvOk (some a3)) (k : WW K n (pc + 2) (a0 :: a1 :: a2 :: a3 :: some (.double x) :: none :: t) st h) : WW K n pc (a0 :: a1 :: a2 :: a3 :: b :: b2 :: t) (.double x :: st) h := w_dstore0 (i := 4) C hd (by simp) (Or.inr ⟨3, rfl, hp⟩) k
theorem w_dstore_5 {a0 a1 a2 a3 a4 b b2 : Option Value} {t : List (Option Value)} (C : CX K own cc nL R) {x : UInt64} (hd : decode cc pc = .ok (.dstore 5, 2)) (hp : lvOk (some a4)) (k : WW K n (pc + 2) (a0 :: a1 :: a2 :: a3 :: a4 :: some (.double x) :: none :: t) st h) : WW K n pc (a0 :: a1 :: a2 :: a3 :: a4 :: b :: b2 :: t) (.double x :: st) h := w_dstore0 (i := 5) C hd (by simp) (Or.inr ⟨4, rfl, hp⟩) k
theorem w_dstore_6 {a0 a1 a2 a3 a4 a5 b b2 : Option Value} {t : List (Option Value)} (C : CX K own cc nL R) {x : UInt64} (hd : decode cc pc = .ok (.dstore 6, 2)) (hp : lvOk (some a5)) (k : WW K n (pc + 2) (a0 :: a1 :: a2 :: a3 :: a4 :: a5 :: some (.double x) :: none :: t) st h) : WW K n pc (a0 :: a1 :: a2 :: a3 :: a4 :: a5 :: b :: b2 :: t) (.double x :: st) h := w_dstore0 (i := 6) C hd (by simp) (Or.inr ⟨5, rfl, hp⟩) k
theorem w_dstore_7 {a0 a1 a2 a3 a4 a5 a6 b b2 : Option Value} {t : List (Option Value)} (C : CX K own cc nL R) {x : UInt64} (hd : decode cc pc = .ok (.dstore 7, 2)) (hp : lvOk (some a6)) (k : WW K n (pc + 2) (a0 :: a1 :: a2 :: a3 :: a4 :: a5 :: a6 :: some (.double x) :: none :: t) st h) : WW K n pc (a0 :: a1 :: a2 :: a3 :: a4 :: a5 :: a6 :: b :: b2 :: t) (.double x :: st) h := w_dstore0 (i := 7) C hd (by simp) (Or.inr ⟨6, rfl, hp⟩) k
theorem w_dstore_8 {a0 a1 a2 a3 a4 a5 a6 a7 b b2 : Option Value} {t : List (Option Value)} (C : CX K own cc nL R) {x : UInt64} (hd : decode cc pc = .ok (.dstore 8, 2)) (hp : lvOk (some a7)) (k : WW K n (pc + 2) (a0 :: a1 :: a2 :: a3 :: a4 :: a5 :: a6 :: a7 :: some (.double x) :: none :: t) st h) : WW K n pc (a0 :: a1 :: a2 :: a3 :: a4 :: a5 :: a6 :: a7 :: b :: b2 :: t) (.double x :: st) h := w_dstore0 (i := 8) C hd (by simp) (Or.inr ⟨7, rfl, hp⟩) k
theorem w_dstore_9 {a0 a1 a2 a3 a4 a5 a6 a7 a8 b b2 : Option Value} {t : List (Option Value)} (C : CX K own cc nL R) {x : UInt64} (hd : decode cc pc = .ok (.dstore 9, 2)) (hp : lvOk (some a8)) (k : WW K n (pc + 2) (a0 :: a1 :: a2 :: a3 :: a4 :: a5 :: a6 :: a7 :: a8 :: some (.double x) :: none :: t) st h) : WW K n pc (a0 :: a1 :: a2 :: a3 :: a4 :: a5 :: a6 :: a7 :: a8 :: b :: b2 :: t) (.double x :: st) h := w_dstore0 (i := 9) C hd (by simp) (Or.inr ⟨8, rfl, hp⟩) k
theorem w_dstore_10 {a0 a1 a2 a3 a4 a5 a6 a7 a8 a9 b b2 : Option Value} {t : List (Option Value)} (C : CX K own cc nL R) {x : UInt64} (hd : decode cc pc = .ok (.dstore 10, 2)) (hp : lvOk (some a9)) (k : WW K n (pc + 2) (a0 :: a1 :: a2 :: a3 :: a4 :: a5 :: a6 :: a7 :: a8 :: a9 :: some (.double x) :: none :: t) st h) : WW K n pc (a0 :: a1 :: a2 :: a3 :: a4 :: a5 :: a6 :: a7 :: a8 :: a9 :: b :: b2 :: t) (.double x :: st) h := w_dstore0 (i := 10) C hd (by simp) (Or.inr ⟨9, rfl, hp⟩) k
theorem w_astore_0N {b : Option Value} {t : List (Option Value)} (C : CX K own cc nL R) (hd : decode cc pc = .ok (.astore_n 0, 1)) (k : WW K n (pc + 1) (some (.null) :: t) st h) : WW K n pc (b :: t) (.null :: st) h := w_astore_nN0 (i := 0) C hd rfl (by simp) (Or.inl rfl) k
theorem w_astore_1N {a0 b : Option Value} {t : List (Option Value)} (C : CX K own cc nL R) (hd : decode cc pc = .ok (.astore_n 1, 1)) (hp : lvOk (some a0)) (k : WW K n (pc + 1) (a0 :: some (.null) :: t) st h) : WW K n pc (a0 :: b :: t) (.null :: st) h := w_astore_nN0 (i := 1) C hd rfl (by simp) (Or.inr ⟨0, rfl, hp⟩) k
theorem w_astore_2N {a0 a1 b : Option Value} {t : List (Option Value)} (C : CX K own cc nL R) (hd : decode cc pc = .ok (.astore_n 2, 1)) (hp : lvOk (some a1)) (k : WW K n (pc + 1) (a0 :: a1 :: some (.null) :: t) st h) : WW K n pc (a0 :: a1 :: b :: t) (.null :: st) h := w_astore_nN0 (i := 2) C hd rfl (by simp) (Or.inr ⟨1, rfl, hp⟩) k
theorem w_astore_3N {a0 a1 a2 b : Option Value} {t : List (Option Value)} (C : CX K own cc nL R) (hd : decode cc pc = .ok (.astore_n 3, 1)) (hp : lvOk (some a2)) (k : WW K n (pc + 1) (a0 :: a1 :: a2 :: some (.null) :: t) st h) : WW K n pc (a0 :: a1 :: a2 :: b :: t) (.null :: st) h := w_astore_nN0 (i := 3) C hd rfl (by simp) (Or.inr ⟨2, rfl, hp⟩) k
theorem w_astore_4N {a0 a1 a2 a3 b : Option Value} {t : List (Option Value)} (C : CX K own cc nL R) (hd : decode cc pc = .ok (.astore 4, 2)) (hp : lvOk (some a3)) (k : WW K n (pc + 2) (a0 :: a1 :: a2 :: a3 :: some (.null) :: t) st h) : WW K n pc (a0 :: a1 :: a2 :: a3 :: b :: t) (.null :: st) h := w_astoreN0 (i := 4) C hd (by simp) (Or.inr ⟨3, rfl, hp⟩) k
theorem w_astore_5N {a0 a1 a2 a3 a4 b : Option Value} {t : List (Option Value)} (C : CX K own cc nL R) (hd : decode cc pc = .ok (.astore 5, 2)) (hp : lvOk (some a4)) (k : WW K n (pc + 2) (a0 :: a1 :: a2 :: a3 :: a4 :: some (.null) :: t) st h) : WW K n pc (a0 :: a1 :: a2 :: a3 :: a4 :: b :: t) (.null :: st) h := w_astoreN0 (i := 5) C hd (by simp) (Or.inr ⟨4, rfl, hp⟩) k
theorem w_astore_6N {a0 a1 a2 a3 a4 a5 b : Option Value} {t : List (Option Value)} (C : CX K own cc nL R) (hd : decode cc pc = .ok (.astore 6, 2)) (hp : lvOk (some a5)) (k : WW K n (pc + 2) (a0 :: a1 :: a2 :: a3 :: a4 :: a5 :: some (.null) :: t) st h) : WW K n pc (a0 :: a1 :: a2 :: a3 :: a4 :: a5 :: b :: t) (.null :: st) h := w_astoreN0 (i := 6) C hd (by simp) (Or.inr ⟨5, rfl, hp⟩) k
theorem w_astore_7N {a0 a1 a2 a3 a4 a5 a6 b : Option Value} {t : List (Option Value)} (C : CX K own cc nL R) (hd : decode cc pc = .ok (.astore 7, 2)) (hp : lvOk (some a6)) (k : WW K n (pc + 2) (a0 :: a1 :: a2 :: a3 :: a4 :: a5 :: a6 :: some (.null) :: t) st h) : WW K n pc (a0 :: a1 :: a2 :: a3 :: a4 :: a5 :: a6 :: b :: t) (.null :: st) h := w_astoreN0 (i := 7) C hd (by simp) (Or.inr ⟨6, rfl, hp⟩) k
theorem w_astore_8N {a0 a1 a2 a3 a4 a5 a6 a7 b : Option Value} {t : List (Option Value)} (C : CX K own cc nL R) (hd : decode cc pc = .ok (.astore 8, 2)) (hp : lvOk (some a7)) (k : WW K n (pc + 2) (a0 :: a1 :: a2 :: a3 :: a4 :: a5 :: a6 :: a7 :: some (.null) :: t) st h) : WW K n pc (a0 :: a1 :: a2 :: a3 :: a4 :: a5 :: a6 :: a7 :: b :: t) (.null :: st) h := w_astoreN0 (i := 8) C hd (by simp) (Or.inr ⟨7, rfl, hp⟩) k
theorem w_astore_9N {a0 a1 a2 a3 a4 a5 a6 a7 a8 b : Option Value} {t : List (Option Value)} (C : CX K own cc nL R) (hd : decode cc pc = .ok (.astore 9, 2)) (hp : lvOk (some a8)) (k : WW K n (pc + 2) (a0 :: a1 :: a2 :: a3 :: a4 :: a5 :: a6 :: a7 :: a8 :: some (.null) :: t) st h) : WW K n pc (a0 :: a1 :: a2 :: a3 :: a4 :: a5 :: a6 :: a7 :: a8 :: b :: t) (.null :: st) h := w_astoreN0 (i := 9) C hd (by simp) (Or.inr ⟨8, rfl, hp⟩) k
theorem w_astore_10N {a0 a1 a2 a3 a4 a5 a6 a7 a8 a9 b : Option Value} {t : List (Option Value)} (C : CX K own cc nL R) (hd : decode cc pc = .ok (.astore 10, 2)) (hp : lvOk (some a9)) (k : WW K n (pc + 2) (a0 :: a1 :: a2 :: a3 :: a4 :: a5 :: a6 :: a7 :: a8 :: a9 :: some (.null) :: t) st h) : WW K n pc (a0 :: a1 :: a2 :: a3 :: a4 :: a5 :: a6 :: a7 :: a8 :: a9 :: b :: t) (.null :: st) h := w_astoreN0 (i := 10) C hd (by simp) (Or.inr ⟨9, rfl, hp⟩) k
theorem w_iinc_0 {t : List (Option Value)} (C : CX K own cc nL R) {d : Int} {x v : Int32} (hd : decode cc pc = .ok (.iinc 0 d, 3)) (hv : x + Int32.ofInt d = v) (k : WW K n (pc + 3) (some (.int v) :: t) st h) : WW K n pc (some (.int x) :: t) st h := w_iinc0 (i := 0) C hd rfl hv (Or.inl rfl) k
theorem w_iinc_1 {a0 : Option Value} {t : List (Option Value)} (C : CX K own cc nL R) {d : Int} {x v : Int32} (hd : decode cc pc = .ok (.iinc 1 d, 3)) (hv : x + Int32.ofInt d = v) (hp : lvOk (some a0)) (k : WW K n (pc + 3) (a0 :: some (.int v) :: t) st h) : WW K n pc (a0 :: some (.int x) :: t) st h := w_iinc0 (i := 1) C hd rfl hv (Or.inr ⟨0, rfl, hp⟩) k
theorem w_iinc_2 {a0 a1 : Option Value} {t : List (Option Value)} (C : CX K own cc nL R) {d : Int} {x v : Int32} (hd : decode cc pc = .ok (.iinc 2 d, 3)) (hv : x + Int32.ofInt d = v) (hp : lvOk (some a1)) (k : WW K n (pc + 3) (a0 :: a1 :: some (.int v) :: t) st h) : WW K n pc (a0 :: a1 :: some (.int x) :: t) st h := w_iinc0 (i := 2) C hd rfl hv (Or.inr ⟨1, rfl, hp⟩) k
theorem w_iinc_3 {a0 a1 a2 : Option Value} {t : List (Option Value)} (C : CX K own cc nL R) {d : Int} {x v : Int32} (hd : decode cc pc = .ok (.iinc 3 d, 3)) (hv : x + Int32.ofInt d = v) (hp : lvOk (some a2)) (k : WW K n (pc + 3) (a0 :: a1 :: a2 :: some (.int v) :: t) st h) : WW K n pc (a0 :: a1 :: a2 :: some (.int x) :: t) st h := w_iinc0 (i := 3) C hd rfl hv (Or.inr ⟨2, rfl, hp⟩) k
theorem w_iinc_4 {a0 a1 a2 a3 : Option Value} {t : List (Option Value)} (C : CX K own cc nL R) {d : Int} {x v : Int32} (hd : decode cc pc = .ok (.iinc 4 d, 3)) (hv : x + Int32.ofInt d = v) (hp : lvOk (some a3)) (k : WW K n (pc + 3) (a0 :: a1 :: a2 :: a3 :: some (.int v) :: t) st h) : WW K n pc (a0 :: a1 :: a2 :: a3 :: some (.int x) :: t) st h := w_iinc0 (i := 4) C hd rfl hv (Or.inr ⟨3, rfl, hp⟩) k
theorem w_iinc_5 {a0 a1 a2 a3 a4 : Option Value} {t : List (Option Value)} (C : CX K own cc nL R) {d : Int} {x v : Int32} (hd : decode cc pc = .ok (.iinc 5 d, 3)) (hv : x + Int32.ofInt d = v) (hp : lvOk (some a4)) (k : WW K n (pc + 3) (a0 :: a1 :: a2 :: a3 :: a4 :: some (.int v) :: t) st h) : WW K n pc (a0 :: a1 :: a2 :: a3 :: a4 :: some (.int x) :: t) st h := w_iinc0 (i := 5) C hd rfl hv (Or.inr ⟨4, rfl, hp⟩) k
theorem w_iinc_6 {a0 a1 a2 a3 a4 a5 : Option Value} {t : List (Option Value)} (C : CX K own cc nL R) {d : Int} {x v : Int32} (hd : decode cc pc = .ok (.iinc 6 d, 3)) (hv : x + Int32.ofInt d = v) (hp : lvOk (some a5)) (k : WW K n (pc + 3) (a0 :: a1 :: a2 :: a3 :: a4 :: a5 :: some (.int v) :: t) st h) : WW K n pc (a0 :: a1 :: a2 :: a3 :: a4 :: a5 :: some (.int x) :: t) st h := w_iinc0 (i := 6) C hd rfl hv (Or.inr ⟨5, rfl, hp⟩) k
theorem w_iinc_7 {a0 a1 a2 a3 a4 a5 a6 : Option Value} {t : List (Option Value)} (C : CX K own cc nL R) {d : Int} {x v : Int32} (hd : decode cc pc = .ok (.iinc 7 d, 3)) (hv : x + Int32.ofInt d = v) (hp : lvOk (some a6)) (k : WW K n (pc + 3) (a0 :: a1 :: a2 :: a3 :: a4 :: a5 :: a6 :: some (.int v) :: t) st h) : WW K n pc (a0 :: a1 :: a2 :: a3 :: a4 :: a5 :: a6 :: some (.int x) :: t) st h := w_iinc0 (i := 7) C hd rfl hv (Or.inr ⟨6, rfl, hp⟩) k
theorem w_iinc_8 {a0 a1 a2 a3 a4 a5 a6 a7 : Option Value} {t : List (Option Value)} (C : CX K own cc nL R) {d : Int} {x v : Int32} (hd : decode cc pc = .ok (.iinc 8 d, 3)) (hv : x + Int32.ofInt d = v) (hp : lvOk (some a7)) (k : WW K n (pc + 3) (a0 :: a1 :: a2 :: a3 :: a4 :: a5 :: a6 :: a7 :: some (.int v) :: t) st h) : WW K n pc (a0 :: a1 :: a2 :: a3 :: a4 :: a5 :: a6 :: a7 :: some (.int x) :: t) st h := w_iinc0 (i := 8) C hd rfl hv (Or.inr ⟨7, rfl, hp⟩) k
theorem w_iinc_9 {a0 a1 a2 a3 a4 a5 a6 a7 a8 : Option Value} {t : List (Option Value)} (C : CX K own cc nL R) {d : Int} {x v : Int32} (hd : decode cc pc = .ok (.iinc 9 d, 3)) (hv : x + Int32.ofInt d = v) (hp : lvOk (some a8)) (k : WW K n (pc + 3) (a0 :: a1 :: a2 :: a3 :: a4 :: a5 :: a6 :: a7 :: a8 :: some (.int v) :: t) st h) : WW K n pc (a0 :: a1 :: a2 :: a3 :: a4 :: a5 :: a6 :: a7 :: a8 :: some (.int x) :: t) st h := w_iinc0 (i := 9) C hd rfl hv (Or.inr ⟨8, rfl, hp⟩) k
theorem w_iinc_10 {a0 a1 a2 a3 a4 a5 a6 a7 a8 a9 : Option Value} {t : List (Option Value)} (C : CX K own cc nL R) {d : Int} {x v : Int32} (hd : decode cc pc = .ok (.iinc 10 d, 3)) (hv : x + Int32.ofInt d = v) (hp : lvOk (some a9)) (k : WW K n (pc + 3) (a0 :: a1 :: a2 :: a3 :: a4 :: a5 :: a6 :: a7 :: a8 :: a9 :: some (.int v) :: t) st h) : WW K n pc (a0 :: a1 :: a2 :: a3 :: a4 :: a5 :: a6 :: a7 :: a8 :: a9 :: some (.int x) :: t) st h := w_iinc0 (i := 10) C hd rfl hv (Or.inr ⟨9, rfl, hp⟩) k
theorem w_iadd (C : CX K own cc nL R) {x y : Int32} (hd : decode cc pc = .ok (.iadd, 1)) (k : WW K n (pc + 1) lv (.int (x + y) :: st) h) : WW K n pc lv (.int y :: .int x :: st) h := fun H locs ls hP hS hl => lv_iadd C.1 C.2.1 hd (k H locs ls hP hS hl)
theorem w_isub (C : CX K own cc nL R) {x y : Int32} (hd : decode cc pc = .ok (.isub, 1)) (k : WW K n (pc + 1) lv (.int (x - y) :: st) h) : WW K n pc lv (.int y :: .int x :: st) h := fun H locs ls hP hS hl => lv_isub C.1 C.2.1 hd (k H locs ls hP hS hl)
theorem w_imul (C : CX K own cc nL R) {x y : Int32} (hd : decode cc pc = .ok (.imul, 1)) (k : WW K n (pc + 1) lv (.int (x * y) :: st) h) : WW K n pc lv (.int y :: .int x :: st) h := fun H locs ls hP hS hl => lv_imul C.1 C.2.1 hd (k H locs ls hP hS hl)
theorem w_iand (C : CX K own cc nL R) {x y : Int32} (hd : decode cc pc = .ok (.iand, 1)) (k : WW K n (pc + 1) lv (.int (x &&& y) :: st) h) : WW K n pc lv (.int y :: .int x :: st) h := fun H locs ls hP hS hl => lv_iand C.1 C.2.1 hd (k H locs ls hP hS hl)
theorem w_ior (C : CX K own cc nL R) {x y : Int32} (hd : decode cc pc = .ok (.ior, 1)) (k : WW K n (pc + 1) lv (.int (x ||| y) :: st) h) : WW K n pc lv (.int y :: .int x :: st) h := fun H locs ls hP hS hl => lv_ior C.1 C.2.1 hd (k H locs ls hP hS hl)
theorem w_ixor (C : CX K own cc nL R) {x y : Int32} (hd : decode cc pc = .ok (.ixor, 1)) (k : WW K n (pc + 1) lv (.int (x ^^^ y) :: st) h) : WW K n pc lv (.int y :: .int x :: st) h := fun H locs ls hP hS hl => lv_ixor C.1 C.2.1 hd (k H locs ls hP hS hl)
theorem w_ladd (C : CX K own cc nL R) {x y : Int64} (hd : decode cc pc = .ok (.ladd, 1)) (k : WW K n (pc + 1) lv (.long (x + y) :: st) h) : WW K n pc lv (.long y :: .long x :: st) h := fun H locs ls hP hS hl => lv_ladd C.1 C.2.1 hd (k H locs ls hP hS hl)
theorem w_lmul (C : CX K own cc nL R) {x y : Int64} (hd : decode cc pc = .ok (.lmul, 1)) (k : WW K n (pc + 1) lv (.long (x * y) :: st) h) : WW K n pc lv (.long y :: .long x :: st) h := fun H locs ls hP hS hl => lv_lmul C.1 C.2.1 hd (k H locs ls hP hS hl)
theorem w_lsub (C : CX K own cc nL R) {x y : Int64} (hd : decode cc pc = .ok (.lsub, 1)) (k : WW K n (pc + 1) lv (.long (x - y) :: st) h) : WW K n pc lv (.long y :: .long x :: st) h := fun H locs ls hP hS hl => lv_lsub C.1 C.2.1 hd (k H locs ls hP hS hl)
theorem w_land (C : CX K own cc nL R) {x y : Int64} (hd : decode cc pc = .ok (.land, 1)) (k : WW K n (pc + 1) lv (.long (x &&& y) :: st) h) : WW K n pc lv (.long y :: .long x :: st) h := fun H locs ls hP hS hl => lv_land C.1 C.2.1 hd (k H locs ls hP hS hl)
theorem w_ishl (C : CX K own cc nL R) {x y : Int32} (hd : decode cc pc = .ok (.ishl, 1)) (k : WW K n (pc + 1) lv (.int (x <<< (y &&& 31)) :: st) h) : WW K n pc lv (.int y :: .int x :: st) h := fun H locs ls hP hS hl => lv_ishl C.1 C.2.1 hd (k H locs ls hP hS hl)
theorem w_ishr (C : CX K own cc nL R) {x y : Int32} (hd : decode cc pc = .ok (.ishr, 1)) (k : WW K n (pc + 1) lv (.int (x >>> (y &&& 31)) :: st) h) : WW K n pc lv (.int y :: .int x :: st) h := fun H locs ls hP hS hl => lv_ishr C.1 C.2.1 hd (k H locs ls hP hS hl)
theorem w_idiv (C : CX K own cc nL R) {x y : Int32} (hd : decode cc pc = .ok (.idiv, 1)) (hne : ¬ y = 0) (k : WW K n (pc + 1) lv (.int (x / y) :: st) h) : WW K n pc lv (.int y :: .int x :: st) h := fun H locs ls hP hS hl => lv_idiv C.1 C.2.1 hd hne (k H locs ls hP hS hl)
theorem w_irem (C : CX K own cc nL R) {x y : Int32} (hd : decode cc pc = .ok (.irem, 1)) (hne : ¬ y = 0) (k : WW K n (pc + 1) lv (.int (x - x / y * y) :: st) h) : WW K n pc lv (.int y :: .int x :: st) h := fun H locs ls hP hS hl => lv_irem C.1 C.2.1 hd hne (k H locs ls hP hS hl)
theorem w_ineg (C : CX K own cc nL R) {x : Int32} (hd : decode cc pc = .ok (.ineg, 1)) (k : WW K n (pc + 1) lv (.int (-x) :: st) h) : WW K n pc lv (.int x :: st) h := fun H locs ls hP hS hl => lv_ineg C.1 C.2.1 hd (k H locs ls hP hS hl)
theorem w_iushr (C : CX K own cc nL R) {x y : Int32} (hd : decode cc pc = .ok (.iushr, 1)) (k : WW K n (pc + 1) lv (.int ((x.toUInt32 >>> (y.toUInt32 &&& Int32.toUInt32 31)).toInt32) :: st) h) : WW K n pc lv (.int y :: .int x :: st) h := fun H locs ls hP hS hl => lv_iushr C.1 C.2.1 hd rfl (k H locs ls hP hS hl)
theorem w_i2l (C : CX K own cc nL R) {x : Int32} (hd : decode cc pc = .ok (.i2l, 1)) (k : WW K n (pc + 1) lv (.long x.toInt64 :: st) h) : WW K n pc lv (.int x :: st) h := fun H locs ls hP hS hl => lv_i2l C.1 C.2.1 hd rfl (k H locs ls hP hS hl)
theorem w_l2i (C : CX K own cc nL R) {x : Int64} (hd : decode cc pc = .ok (.l2i, 1)) (k : WW K n (pc + 1) lv (.int x.toInt32 :: st) h) : WW K n pc lv (.long x :: st) h := fun H locs ls hP hS hl => lv_l2i C.1 C.2.1 hd rfl (k H locs ls hP hS hl)
theorem w_i2f (C : CX K own cc nL R) {x : Int32} (hd : decode cc pc = .ok (.i2f, 1)) (k : WW K n (pc + 1) lv (.float (FP.i2f x) :: st) h) : WW K n pc lv (.int x :: st) h := fun H locs ls hP hS hl => lv_i2f C.1 C.2.1 hd (k H locs ls hP hS hl)
theorem w_i2d (C : CX K own cc nL R) {x : Int32} (hd : decode cc pc = .ok (.i2d, 1)) (k : WW K n (pc + 1) lv (.double (FP.i2d x) :: st) h) : WW K n pc lv (.int x :: st) h := fun H locs ls hP hS hl => lv_i2d C.1 C.2.1 hd (k H locs ls hP hS hl)
theorem w_l2d (C : CX K own cc nL R) {x : Int64} (hd : decode cc pc = .ok (.l2d, 1)) (k : WW K n (pc + 1) lv (.double (FP.l2d x) :: st) h) : WW K n pc lv (.long x :: st) h := fun H locs ls hP hS hl => lv_l2d C.1 C.2.1 hd (k H locs ls hP hS hl)
theorem w_d2i (C : CX K own cc nL R) {x : UInt64} (hd : decode cc pc = .ok (.d2i, 1)) (k : WW K n (pc + 1) lv (.int (FP.d2i x) :: st) h) : WW K n pc lv (.double x :: st) h := fun H locs ls hP hS hl => lv_d2i C.1 C.2.1 hd (k H locs ls hP hS hl)
theorem w_d2l (C : CX K own cc nL R) {x : UInt64} (hd : decode cc pc = .ok (.d2l, 1)) (k : WW K n (pc + 1) lv (.long (FP.d2l x) :: st) h) : WW K n pc lv (.double x :: st) h := fun H locs ls hP hS hl => lv_d2l C.1 C.2.1 hd (k H locs ls hP hS hl)
theorem w_f2l (C : CX K own cc nL R) {x : UInt32} (hd : decode cc pc = .ok (.f2l, 1)) (k : WW K n (pc + 1) lv (.long (FP.f2l x) :: st) h) : WW K n pc lv (.float x :: st) h := fun H locs ls hP hS hl => lv_f2l C.1 C.2.1 hd (k H locs ls hP hS hl)
theorem w_f2d (C : CX K own cc nL R) {x : UInt32} (hd : decode cc pc = .ok (.f2d, 1)) (hne : vf_n64 (FP.f2d x)) (k : WW K n (pc + 1) lv (.double (FP.f2d x) :: st) h) : WW K n pc lv (.float x :: st) h := fun H locs ls hP hS hl => lv_f2d C.1 C.2.1 hd hne (k H locs ls hP hS hl)
theorem w_dneg (C : CX K own cc nL R) {x : UInt64} (hd : decode cc pc = .ok (.dneg, 1)) (k : WW K n (pc + 1) lv (.double (FP.dneg x) :: st) h) : WW K n pc lv (.double x :: st) h := fun H locs ls hP hS hl => lv_dneg C.1 C.2.1 hd (k H locs ls hP hS hl)
theorem w_dadd (C : CX K own cc nL R) {x y : UInt64} (hd : decode cc pc = .ok (.dadd, 1)) (hne : vf_n64 (FP.dadd x y)) (k : WW K n (pc + 1) lv (.double (FP.dadd x y) :: st) h) : WW K n pc lv (.double y :: .double x :: st) h := fun H locs ls hP hS hl => lv_dadd C.1 C.2.1 hd hne (k H locs ls hP hS hl)
theorem w_dsub (C : CX K own cc nL R) {x y : UInt64} (hd : decode cc pc = .ok (.dsub, 1)) (hne : vf_n64 (FP.dsub x y)) (k : WW K n (pc + 1) lv (.double (FP.dsub x y) :: st) h) : WW K n pc lv (.double y :: .double x :: st) h := fun H locs ls hP hS hl => lv_dsub C.1 C.2.1 hd hne (k H locs ls hP hS hl)
theorem w_dmul (C : CX K own cc nL R) {x y : UInt64} (hd : decode cc pc = .ok (.dmul, 1)) (hne : vf_n64 (FP.dmul x y)) (k : WW K n (pc + 1) lv (.double (FP.dmul x y) :: st) h) : WW K n pc lv (.double y :: .double x :: st) h := fun H locs ls hP hS hl => lv_dmul C.1 C.2.1 hd hne (k H locs ls hP hS hl)
theorem w_ddiv (C : CX K own cc nL R) {x y : UInt64} (hd : decode cc pc = .ok (.ddiv, 1)) (hne : vf_n64 (FP.ddiv x y)) (k : WW K n (pc + 1) lv (.double (FP.ddiv x y) :: st) h) : WW K n pc lv (.double y :: .double x :: st) h := fun H locs ls hP hS hl => lv_ddiv C.1 C.2.1 hd hne (k H locs ls hP hS hl)
theorem w_fadd (C : CX K own cc nL R) {x y : UInt32} (hd : decode cc pc = .ok (.fadd, 1)) (hne : vf_n32 (FP.fadd x y)) (k : WW K n (pc + 1) lv (.float (FP.fadd x y) :: st) h) : WW K n pc lv (.float y :: .float x :: st) h := fun H locs ls hP hS hl => lv_fadd C.1 C.2.1 hd hne (k H locs ls hP hS hl)
theorem w_fsub (C : CX K own cc nL R) {x y : UInt32} (hd : decode cc pc = .ok (.fsub, 1)) (hne : vf_n32 (FP.fsub x y)) (k : WW K n (pc + 1) lv (.float (FP.fsub x y) :: st) h) : WW K n pc lv (.float y :: .float x :: st) h := fun H locs ls hP hS hl => lv_fsub C.1 C.2.1 hd hne (k H locs ls hP hS hl)
theorem w_fmul (C : CX K own cc nL R) {x y : UInt32} (hd : decode cc pc = .ok (.fmul, 1)) (hne : vf_n32 (FP.fmul x y)) (k : WW K n (pc + 1) lv (.float (FP.fmul x y) :: st) h) : WW K n pc lv (.float y :: .float x :: st) h := fun H locs ls hP hS hl => lv_fmul C.1 C.2.1 hd hne (k H locs ls hP hS hl)
theorem w_fdiv (C : CX K own cc nL R) {x y : UInt32} (hd : decode cc pc = .ok (.fdiv, 1)) (hne : vf_n32 (FP.fdiv x y)) (k : WW K n (pc + 1) lv (.float (FP.fdiv x y) :: st) h) : WW K n pc lv (.float y :: .float x :: st) h := fun H locs ls hP hS hl => lv_fdiv C.1 C.2.1 hd hne (k H locs ls hP hS hl)
theorem w_dcmp (C : CX K own cc nL R) {x y : UInt64} {op : CmpOp} (hd : decode cc pc = .ok (.dcmp op, 1)) (k : WW K n (pc + 1) lv (.int (Op.cmpValue (FP.dcmp x y) op) :: st) h) : WW K n pc lv (.double y :: .double x :: st) h := fun H locs ls hP hS hl => lv_dcmp C.1 C.2.1 hd (k H locs ls hP hS hl)
theorem w_fcmp (C : CX K own cc nL R) {x y : UInt32} {op : CmpOp} (hd : decode cc pc = .ok (.fcmp op, 1)) (k : WW K n (pc + 1) lv (.int (Op.cmpValue (FP.fcmp x y) op) :: st) h) : WW K n pc lv (.float y :: .float x :: st) h := fun H locs ls hP hS hl => lv_fcmp C.1 C.2.1 hd (k H locs ls hP hS hl)
theorem w_lcmp (C : CX K own cc nL R) {x y : Int64} (hd : decode cc pc = .ok (.lcmp, 1)) (k : WW K n (pc + 1) lv (.int (lg_cmp x y) :: st) h) : WW K n pc lv (.long y :: .long x :: st) h := fun H locs ls hP hS hl => W.lcmp C.1 C.2.1 hd (k H locs ls hP hS hl)
theorem w_dup (C : CX K own cc nL R) {va : Value} (hd : decode cc pc = .ok (.dup, 1)) (hva : va.category = 1) (k : WW K n (pc + 1) lv (va :: va :: st) h) : WW K n pc lv (va :: st) h := fun H locs ls hP hS hl => lv_dup C.1 C.2.1 hd hva (k H locs ls hP hS hl)
theorem w_pop (C : CX K own cc nL R) {va : Value} (hd : decode cc pc = .ok (.pop, 1)) (hva : va.category = 1) (k : WW K n (pc + 1) lv (st) h) : WW K n pc lv (va :: st) h := fun H locs ls hP hS hl => lv_pop C.1 C.2.1 hd hva (k H locs ls hP hS hl)
theorem w_dup_x1 (C : CX K own cc nL R) {va vb : Value} (hd : decode cc pc = .ok (.dup_x1, 1)) (hva : va.category = 1) (hvb : vb.category = 1) (k : WW K n (pc + 1) lv (va :: vb :: va :: st) h) : WW K n pc lv (va :: vb :: st) h := fun H locs ls hP hS hl => lv_dup_x1 C.1 C.2.1 hd hva hvb (k H locs ls hP hS hl)
theorem w_dup2 (C : CX K own cc nL R) {va vb : Value} (hd : decode cc pc = .ok (.dup2, 1)) (hva : va.category = 1) (hvb : vb.category = 1) (k : WW K n (pc + 1) lv (va :: vb :: va :: vb :: st) h) : WW K n pc lv (va :: vb :: st) h := fun H locs ls hP hS hl => lv_dup2_11 C.1 C.2.1 hd hva hvb (k H locs ls hP hS hl)
theorem w_dup2d (C : CX K own cc nL R) {va : Value} (hd : decode cc pc = .ok (.dup2, 1)) (hva : va.category = 2) (k : WW K n (pc + 1) lv (va :: va :: st) h) : WW K n pc lv (va :: st) h := fun H locs ls hP hS hl => lv_dup2_2 C.1 C.2.1 hd hva (k H locs ls hP hS hl)
theorem w_if_eq (C : CX K own cc nL R) {x : Int32} {off : Int} {tgt : Nat} (hd : decode cc pc = .ok (.ifCond .eq off, 3)) (ht : (pc : Int) + off = (tgt : Int)) (kt : x = 0 → WW K n tgt lv st h) (kf : ¬ x = 0 → WW K n (pc + 3) lv st h) : WW K n pc lv (.int x :: st) h := fun H locs ls hP hS hl => lv_if_eq C.1 C.2.1 hd ht (fun c => kt c H locs ls hP hS hl) (fun c => kf c H locs ls hP hS hl)
theorem w_icmp_eq (C : CX K own cc nL R) {x y : Int32} {off : Int} {tgt : Nat} (hd : decode cc pc = .ok (.if_icmp .eq off, 3)) (ht : (pc : Int) + off = (tgt : Int)) (kt : x = y → WW K n tgt lv st h) (kf : ¬ x = y → WW K n (pc + 3) lv st h) : WW K n pc lv (.int y :: .int x :: st) h := fun H locs ls hP hS hl => lv_icmp_eq C.1 C.2.1 hd ht (fun c => kt c H locs ls hP hS hl) (fun c => kf c H locs ls hP hS hl)
theorem w_if_ne (C : CX K own cc nL R) {x : Int32} {off : Int} {tgt : Nat} (hd : decode cc pc = .ok (.ifCond .ne off, 3)) (ht : (pc : Int) + off = (tgt : Int)) (kt : ¬ x = 0 → WW K n tgt lv st h) (kf : x = 0 → WW K n (pc + 3) lv st h) : WW K n pc lv (.int x :: st) h := fun H locs ls hP hS hl => lv_if_ne C.1 C.2.1 hd ht (fun c => kt c H locs ls hP hS hl) (fun c => kf c H locs ls hP hS hl)
theorem w_icmp_ne (C : CX K own cc nL R) {x y : Int32} {off : Int} {tgt : Nat} (hd : decode cc pc = .ok (.if_icmp .ne off, 3)) (ht : (pc : Int) + off = (tgt : Int)) (kt : ¬ x = y → WW K n tgt lv st h) (kf : x = y → WW K n (pc + 3) lv st h) : WW K n pc lv (.int y :: .int x :: st) h := fun H locs ls hP hS hl => lv_icmp_ne C.1 C.2.1 hd ht (fun c => kt c H locs ls hP hS hl) (fun c => kf c H locs ls hP hS hl)
theorem w_if_lt (C : CX K own cc nL R) {x : Int32} {off : Int} {tgt : Nat} (hd : decode cc pc = .ok (.ifCond .lt off, 3)) (ht : (pc : Int) + off = (tgt : Int)) (kt : x < 0 → WW K n tgt lv st h) (kf : ¬ x < 0 → WW K n (pc + 3) lv st h) : WW K n pc lv (.int x :: st) h := fun H locs ls hP hS hl => lv_if_lt C.1 C.2.1 hd ht (fun c => kt c H locs ls hP hS hl) (fun c => kf c H locs ls hP hS hl)
theorem w_icmp_lt (C : CX K own cc nL R) {x y : Int32} {off : Int} {tgt : Nat} (hd : decode cc pc = .ok (.if_icmp .lt off, 3)) (ht : (pc : Int) + off = (tgt : Int)) (kt : x < y → WW K n tgt lv st h) (kf : ¬ x < y → WW K n (pc + 3) lv st h) : WW K n pc lv (.int y :: .int x :: st) h := fun H locs ls hP hS hl => lv_icmp_lt C.1 C.2.1 hd ht (fun c => kt c H locs ls hP hS hl) (fun c => kf c H locs ls hP hS hl)
theorem w_if_ge (C : CX K own cc nL R) {x : Int32} {off : Int} {tgt : Nat} (hd : decode cc pc = .ok (.ifCond .ge off, 3)) (ht : (pc : Int) + off = (tgt : Int)) (kt : 0 ≤ x → WW K n tgt lv st h) (kf : ¬ 0 ≤ x → WW K n (pc + 3) lv st h) : WW K n pc lv (.int x :: st) h := fun H locs ls hP hS hl => lv_if_ge C.1 C.2.1 hd ht (fun c => kt c H locs ls hP hS hl) (fun c => kf c H locs ls hP hS hl)
theorem w_icmp_ge (C : CX K own cc nL R) {x y : Int32} {off : Int} {tgt : Nat} (hd : decode cc pc = .ok (.if_icmp .ge off, 3)) (ht : (pc : Int) + off = (tgt : Int)) (kt : y ≤ x → WW K n tgt lv st h) (kf : ¬ y ≤ x → WW K n (pc + 3) lv st h) : WW K n pc lv (.int y :: .int x :: st) h := fun H locs ls hP hS hl => lv_icmp_ge C.1 C.2.1 hd ht (fun c => kt c H locs ls hP hS hl) (fun c => kf c H locs ls hP hS hl)
theorem w_if_gt (C : CX K own cc nL R) {x : Int32} {off : Int} {tgt : Nat} (hd : decode cc pc = .ok (.ifCond .gt off, 3)) (ht : (pc : Int) + off = (tgt : Int)) (kt : 0 < x → WW K n tgt lv st h) (kf : ¬ 0 < x → WW K n (pc + 3) lv st h) : WW K n pc lv (.int x :: st) h := fun H locs ls hP hS hl => lv_if_gt C.1 C.2.1 hd ht (fun c => kt c H locs ls hP hS hl) (fun c => kf c H locs ls hP hS hl)
theorem w_icmp_gt (C : CX K own cc nL R) {x y : Int32} {off : Int} {tgt : Nat} (hd : decode cc pc = .ok (.if_icmp .gt off, 3)) (ht : (pc : Int) + off = (tgt : Int)) (kt : y < x → WW K n tgt lv st h) (kf : ¬ y < x → WW K n (pc + 3) lv st h) : WW K n pc lv (.int y :: .int x :: st) h := fun H locs ls hP hS hl => lv_icmp_gt C.1 C.2.1 hd ht (fun c => kt c H locs ls hP hS hl) (fun c => kf c H locs ls hP hS hl)
theorem w_if_le (C : CX K own cc nL R) {x : Int32} {off : Int} {tgt : Nat} (hd : decode cc pc = .ok (.ifCond .le off, 3)) (ht : (pc : Int) + off = (tgt : Int)) (kt : x ≤ 0 → WW K n tgt lv st h) (kf : ¬ x ≤ 0 → WW K n (pc + 3) lv st h) : WW K n pc lv (.int x :: st) h := fun H locs ls hP hS hl => lv_if_le C.1 C.2.1 hd ht (fun c => kt c H locs ls hP hS hl) (fun c => kf c H locs ls hP hS hl)
theorem w_icmp_le (C : CX K own cc nL R) {x y : Int32} {off : Int} {tgt : Nat} (hd : decode cc pc = .ok (.if_icmp .le off, 3)) (ht : (pc : Int) + off = (tgt : Int)) (kt : x ≤ y → WW K n tgt lv st h) (kf : ¬ x ≤ y → WW K n (pc + 3) lv st h) : WW K n pc lv (.int y :: .int x :: st) h := fun H locs ls hP hS hl => lv_icmp_le C.1 C.2.1 hd ht (fun c => kt c H locs ls hP hS hl) (fun c => kf c H locs ls hP hS hl)
theorem w_goto (C : CX K own cc nL R) {off : Int} {tgt : Nat} (hd : decode cc pc = .ok (.goto off, 3)) (ht : (pc : Int) + off = (tgt : Int)) (k : WW K n tgt lv st h) : WW K n pc lv st h := fun H locs ls hP hS hl => lv_goto C.1 C.2.1 hd ht (k H locs ls hP hS hl)
theorem w_ifnonnull (C : CX K own cc nL R) {x : Nat} {off : Int} {tgt : Nat} (hd : decode cc pc = .ok (.ifnonnull off, 3)) (ht : (pc : Int) + off = (tgt : Int)) (k : WW K n tgt lv st h) : WW K n pc lv (.ref x :: st) h := fun H locs ls hP hS hl => lv_ifnonnull C.1 C.2.1 hd ht (k H locs ls hP hS hl)
theorem w_ifnull (C : CX K own cc nL R) {x : Nat} {off : Int} (hd : decode cc pc = .ok (.ifnull off, 3)) (k : WW K n (pc + 3) lv st h) : WW K n pc lv (.ref x :: st) h := fun H locs ls hP hS hl => lv_ifnull C.1 C.2.1 hd (k H locs ls hP hS hl)
theorem w_ifnullN (C : CX K own cc nL R) {off : Int} {tgt : Nat} (hd : decode cc pc = .ok (.ifnull off, 3)) (ht : (pc : Int) + off = (tgt : Int)) (k : WW K n tgt lv st h) : WW K n pc lv (.null :: st) h := fun H locs ls hP hS hl => lv_ifnullN C.1 C.2.1 hd ht (k H locs ls hP hS hl)
theorem w_ifnonnullN (C : CX K own cc nL R) {off : Int} (hd : decode cc pc = .ok (.ifnonnull off, 3)) (k : WW K n (pc + 3) lv st h) : WW K n pc lv (.null :: st) h := fun H locs ls hP hS hl => lv_ifnonnullN C.1 C.2.1 hd (k H locs ls hP hS hl)
theorem w_tableOut (C : CX K own cc nL R) {dflt lo hi : Int} {offs : Array Int} {len : Nat} {x : Int32} {tgt : Nat} (hd : decode cc pc = .ok (.tableswitch dflt lo hi offs, len)) (hx : x.toInt < lo ∨ hi < x.toInt) (ht : (pc : Int) + dflt = (tgt : Int)) (k : WW K n tgt lv st h) : WW K n pc lv (.int x :: st) h := fun H locs ls hP hS hl => lv_tableOut C.1 C.2.1 hd hx ht (k H locs ls hP hS hl)
theorem w_tableIn (C : CX K own cc nL R) {dflt lo hi : Int} {offs : Array Int} {len : Nat} {x : Int32} {off : Int} {tgt : Nat} (hd : decode cc pc = .ok (.tableswitch dflt lo hi offs, len)) (h1 : ¬ x.toInt < lo) (h2 : ¬ hi < x.toInt) (ho : offs[(x.toInt - lo).toNat]? = some off) (ht : (pc : Int) + off = (tgt : Int)) (k : WW K n tgt lv st h) : WW K n pc lv (.int x :: st) h := fun H locs ls hP hS hl => lv_tableIn C.1 C.2.1 hd h1 h2 ho ht (k H locs ls hP hS hl)
end WWR
end
section
section WWH
variable {K : KC} {n : Nat × Nat} {pc : Nat} {lv lv' : List (Option Value)} {st : List Value} {h : HM} {own : String} {cc : ByteArray} {nL : Nat} {R : Room}
/-- what a list of the tables' words says of one shape's fields -/
theorem w_getf (C : CX K own cc nL R) {ref Cn : String} {T : u_T} {N ci index a : Nat} {fs : List Value} {v : Value} (kf : Nat) (ha : h a = some (.inr (ci, fs))) (hc : vwCl[ci]? = some (Cn, T, N)) (hin : ∀ w ∈ u_ws Cn T N, w ∈ lw_G) (hk : kf < N)
    (hw : Cond.fieldLink own index ref (T kf).2.1 (T kf).2.2.1 ∈ lw_G) (hr : (T kf).1 = ref) (hv : fs[kf]? = some v) (hd : decode cc pc = .ok (.getfield index, 3)) (k : WW K n (pc + 3) lv (v :: st) h) : WW K n pc lv (.ref a :: st) h := by
  intro H locs ls hP hS hl
  obtain ⟨ws, k9, e1, p1, p2, -⟩ := hP.cel1 ha
  exact va_get C.1 C.2.1 C.2.2.2.2.1 hin C.2.2.2.1 C.2.2.2.2.2.1 p1 k9 e1 hc kf hk (C.2.2.2.2.1 _ hw) (fun x hx => by rw [← hr]; exact hx) hv hd (k H locs ls hP hS hl)
theorem w_getfS (C : CX K own cc nL R) {ref Cn : String} {T : u_T} {N ci index a : Nat} {fs : List Value} {v : Value} (kf : Nat) (ha : h a = some (.inr (ci, fs))) (hc : vwCl[ci]? = some (Cn, T, N)) (hin : ∀ w ∈ u_ws Cn T N, w ∈ lw_G) (hk : kf < N)
    (hw : Cond.fieldLink own index ref (T kf).2.1 (T kf).2.2.1 ∈ lw_G) (hr : Cond.sameField ref (T kf).1 (T kf).2.1 (T kf).2.2.1 ∈ lw_G) (hv : fs[kf]? = some v) (hd : decode cc pc = .ok (.getfield index, 3)) (k : WW K n (pc + 3) lv (v :: st) h) : WW K n pc lv (.ref a :: st) h := by
  intro H locs ls hP hS hl
  obtain ⟨ws, k9, e1, p1, p2, -⟩ := hP.cel1 ha
  exact va_get C.1 C.2.1 C.2.2.2.2.1 hin C.2.2.2.1 C.2.2.2.2.2.1 p1 k9 e1 hc kf hk (C.2.2.2.2.1 _ hw) (fun x hx => u_same (C.2.2.2.2.1 _ hr) x hx) hv hd (k H locs ls hP hS hl)
theorem w_getfN (C : CX K own cc nL R) {ref Cn host : String} {T : u_T} {N ci index a : Nat} {fs : List Value} {v : Value} (kf : Nat) (ha : h a = some (.inr (ci, fs))) (hc : vwCl[ci]? = some (Cn, T, N)) (hin : ∀ w ∈ u_ws Cn T N, w ∈ lw_G) (hk : kf < N)
    (hw : Cond.fieldLinkNest own index ref (T kf).2.1 (T kf).2.2.1 host ∈ lw_tbl) (hr : (T kf).1 = ref) (hv : fs[kf]? = some v) (hd : decode cc pc = .ok (.getfield index, 3)) (k : WW K n (pc + 3) lv (v :: st) h) : WW K n pc lv (.ref a :: st) h := by
  intro H locs ls hP hS hl
  obtain ⟨ws, k9, e1, p1, p2, -⟩ := hP.cel1 ha
  have hn := C.2.2.2.2.2.2.2.2.1.2.2.2.2.2.2.2.2.2.1 _ _ _ _ _ _ hw
  exact va_getN C.1 C.2.1 C.2.2.2.2.1 hin C.2.2.2.1 C.2.2.2.2.2.1 p1 k9 e1 hc kf hk (va_Nw.use rfl hn) (fun x hx => by rw [← hr]; exact hx) hv hd (k H locs ls hP hS hl)
theorem w_putf (C : CX K own cc nL R) {ref Cn : String} {T : u_T} {N ci index a : Nat} {fs : List Value} {v : Value} {ty0 : Nat → FieldType} (kf : Nat) (ha : h a = some (.inr (ci, fs))) (hc : vwCl[ci]? = some (Cn, T, N)) (hin : ∀ w ∈ u_ws Cn T N, w ∈ lw_G) (hty : ∀ k, k < N → parseFieldDescriptor (T k).2.2.1 = some (ty0 k)) (hnm : ∀ a, a < N → ∀ b, b < N → a ≠ b → (T a).2.1 ≠ (T b).2.1) (hk : kf < N)
    (hw : Cond.fieldLink own index ref (T kf).2.1 (T kf).2.2.1 ∈ lw_G) (hr : (T kf).1 = ref) (hfin : (T kf).2.2.2 = false) (hn : narrow (ty0 kf) v = v) (hfit : fits (ty0 kf) v = true) (hl9 : kf < fs.length) (hd : decode cc pc = .ok (.putfield index, 3))
    (k : WW K n (pc + 3) lv st (hu h a (.inr (ci, fs.set kf v)))) : WW K n pc lv (v :: .ref a :: st) h := by
  intro H locs ls hP hS hl
  obtain ⟨ws, k9, e1, p1, p2, p3⟩ := hP.cel1 ha
  exact va_put C.1 C.2.1 C.2.2.2.2.1 hin ty0 hty hnm C.2.2.2.1 C.2.2.2.2.2.1 p1 p2 hS k9 e1 hc kf hk (C.2.2.2.2.1 _ hw) (fun x hx => by rw [← hr]; exact hx) hfin (hty kf hk) hn hfit hl9 hd (fun H1 locs1 q1 q2 q3 => k H1 locs1 ls (p3 _ _ q1 q2) q3 hl)
theorem w_putfS (C : CX K own cc nL R) {ref Cn : String} {T : u_T} {N ci index a : Nat} {fs : List Value} {v : Value} {ty0 : Nat → FieldType} (kf : Nat) (ha : h a = some (.inr (ci, fs))) (hc : vwCl[ci]? = some (Cn, T, N)) (hin : ∀ w ∈ u_ws Cn T N, w ∈ lw_G) (hty : ∀ k, k < N → parseFieldDescriptor (T k).2.2.1 = some (ty0 k)) (hnm : ∀ a, a < N → ∀ b, b < N → a ≠ b → (T a).2.1 ≠ (T b).2.1) (hk : kf < N)
    (hw : Cond.fieldLink own index ref (T kf).2.1 (T kf).2.2.1 ∈ lw_G) (hr : Cond.sameField ref (T kf).1 (T kf).2.1 (T kf).2.2.1 ∈ lw_G) (hfin : (T kf).2.2.2 = false) (hn : narrow (ty0 kf) v = v) (hfit : fits (ty0 kf) v = true) (hl9 : kf < fs.length) (hd : decode cc pc = .ok (.putfield index, 3))
    (k : WW K n (pc + 3) lv st (hu h a (.inr (ci, fs.set kf v)))) : WW K n pc lv (v :: .ref a :: st) h := by
  intro H locs ls hP hS hl
  obtain ⟨ws, k9, e1, p1, p2, p3⟩ := hP.cel1 ha
  exact va_put C.1 C.2.1 C.2.2.2.2.1 hin ty0 hty hnm C.2.2.2.1 C.2.2.2.2.2.1 p1 p2 hS k9 e1 hc kf hk (C.2.2.2.2.1 _ hw) (fun x hx => u_same (C.2.2.2.2.1 _ hr) x hx) hfin (hty kf hk) hn hfit hl9 hd (fun H1 locs1 q1 q2 q3 => k H1 locs1 ls (p3 _ _ q1 q2) q3 hl)
theorem w_putfF (C : CX K own cc nL R) {ref Cn : String} {T : u_T} {N ci index a : Nat} {fs : List Value} {v : Value} {ty0 : Nat → FieldType} (kf : Nat) (ha : h a = some (.inr (ci, fs))) (hc : vwCl[ci]? = some (Cn, T, N)) (hin : ∀ w ∈ u_ws Cn T N, w ∈ lw_G) (hty : ∀ k, k < N → parseFieldDescriptor (T k).2.2.1 = some (ty0 k)) (hnm : ∀ a, a < N → ∀ b, b < N → a ≠ b → (T a).2.1 ≠ (T b).2.1) (hk : kf < N)
    (hw : Cond.fieldLink own index ref (T kf).2.1 (T kf).2.2.1 ∈ lw_G) (hr : (T kf).1 = ref) (hfin : (T kf).2.2.2 = true) (hi : (Kme K).name = "<init>") (ho : (T kf).1 = own) (hn : narrow (ty0 kf) v = v) (hfit : fits (ty0 kf) v = true) (hl9 : kf < fs.length) (hd : decode cc pc = .ok (.putfield index, 3))
    (k : WW K n (pc + 3) lv st (hu h a (.inr (ci, fs.set kf v)))) : WW K n pc lv (v :: .ref a :: st) h := by
  intro H locs ls hP hS hl
  obtain ⟨ws, k9, e1, p1, p2, p3⟩ := hP.cel1 ha
  exact va_putF C.1 C.2.1 C.2.2.2.2.1 hin ty0 hty hnm C.2.2.2.1 C.2.2.2.2.2.1 p1 p2 hS k9 e1 hc kf hk (C.2.2.2.2.1 _ hw) (fun x hx => by rw [← hr]; exact hx) hfin hi ho (hty kf hk) hn hfit hl9 hd (fun H1 locs1 q1 q2 q3 => k H1 locs1 ls (p3 _ _ q1 q2) q3 hl)
theorem w_new (C : CX K own cc nL R) {Cn : String} {T : u_T} {N ci index : Nat} {fs : List Value} {ty0 : Nat → FieldType} (hc : vwCl[ci]? = some (Cn, T, N)) (hin : ∀ w ∈ u_ws Cn T N, w ∈ lw_G) (hty : ∀ k, k < N → parseFieldDescriptor (T k).2.2.1 = some (ty0 k)) (hfs : ∀ j, j < N → defaultValue (ty0 j) = vp_V fs j)
    (w1 : Cond.classLink own index Cn ∈ lw_G) (w2 : Cond.instantiable Cn N ∈ lw_G) (w3 : Cond.initialized Cn ∈ lw_G) (h1 : n.1 + 1 ≤ R.cells) (h2 : n.2 + N ≤ R.slots) (hd : decode cc pc = .ok (.new index, 3))
    (k : ∀ q : Nat, h q = none → WW K (n.1 + 1, n.2 + N) (pc + 3) lv (.ref q :: st) (hu h q (.inr (ci, fs)))) : WW K n pc lv st h := by
  intro H locs ls hP hS hl
  obtain ⟨ws, p1, p2, p3⟩ := hP.celn
  have hR := C.2.2.2.2.2.2.2.1
  exact va_new C.1 C.2.1 C.2.2.2.2.1 hin ty0 hty C.2.2.2.1 (C.2.2.2.2.1 _ w1) (C.2.2.2.2.1 _ w2) (C.2.2.2.2.1 _ w3) C.2.2.2.2.2.1 p1 p2 hS C.2.2.2.2.2.2.1 hc hfs (by rw [hR]; exact h1) (by rw [hR]; exact h2) hd (fun q H1 q1 q2 q3 => k q (p3 q _ _ q1 q2).1 H1 locs ls (p3 q _ _ q1 q2).2 q3 hl)
theorem w_alen (C : CX K own cc nL R) {a : Nat} {cA : ClassId} {x : vp_A} (t0 : Nat) {ty : FieldType} (ha : h a = some (.inl (cA, x))) (ht : (tysK (Kt K))[t0]? = some (cA, ty)) (hd : decode cc pc = .ok (.arraylength, 1)) (k : WW K n (pc + 1) lv (.int (nI x.1) :: st) h) : WW K n pc lv (.ref a :: st) h := by
  intro H locs ls hP hS hl
  obtain ⟨ws, k9, e1, p1, p2, p3⟩ := hP.cel1 ha
  exact va_alen C.1 C.2.1 C.2.2.2.2.2.1 p1 k9 t0 e1 ht rfl hd (k H locs ls hP hS hl)
theorem w_iald (C : CX K own cc nL R) {a m : Nat} {f : Nat → Int32} (ha : h a = some (.inl (Kt K 0, m, .inl f))) {i : Int32} (hi : vp_in i m) (hd : decode cc pc = .ok (.iaload, 1)) (k : WW K n (pc + 1) lv (.int (f i.toNatClampNeg) :: st) h) : WW K n pc lv (.int i :: .ref a :: st) h := by
  intro H locs ls hP hS hl
  obtain ⟨ws, k9, e1, p1, p2, p3⟩ := hP.cel1 ha
  exact va_iald C.1 C.2.1 C.2.2.2.2.2.1 p1 k9 0 e1 rfl hi hd (k H locs ls hP hS hl)
theorem w_lald (C : CX K own cc nL R) {a m : Nat} {f : Nat → Int64} (ha : h a = some (.inl (Kt K 1, m, .inr (.inl f)))) {i : Int32} (hi : vp_in i m) (hd : decode cc pc = .ok (.laload, 1)) (k : WW K n (pc + 1) lv (.long (f i.toNatClampNeg) :: st) h) : WW K n pc lv (.int i :: .ref a :: st) h := by
  intro H locs ls hP hS hl
  obtain ⟨ws, k9, e1, p1, p2, p3⟩ := hP.cel1 ha
  exact va_lald C.1 C.2.1 C.2.2.2.2.2.1 p1 k9 1 e1 rfl hi hd (k H locs ls hP hS hl)
theorem w_dald (C : CX K own cc nL R) {a m : Nat} {f : Nat → UInt64} (ha : h a = some (.inl (Kt K 2, m, .inr (.inr (.inr (.inl f)))))) {i : Int32} (hi : vp_in i m) (hd : decode cc pc = .ok (.daload, 1)) (k : WW K n (pc + 1) lv (.double (f i.toNatClampNeg) :: st) h) : WW K n pc lv (.int i :: .ref a :: st) h := by
  intro H locs ls hP hS hl
  obtain ⟨ws, k9, e1, p1, p2, p3⟩ := hP.cel1 ha
  exact va_dald C.1 C.2.1 C.2.2.2.2.2.1 p1 k9 2 e1 rfl hi hd (k H locs ls hP hS hl)
theorem w_aald (C : CX K own cc nL R) (t0 : Nat) {cA : ClassId} {E : String} {a m : Nat} {f : Nat → Option Nat} (ha : h a = some (.inl (cA, m, .inr (.inr (.inr (.inr f)))))) (ht : (tysK (Kt K))[t0]? = some (cA, .object E)) {i : Int32} (hi : vp_in i m) (hd : decode cc pc = .ok (.aaload, 1)) (k : WW K n (pc + 1) lv (va_rf (f i.toNatClampNeg) :: st) h) : WW K n pc lv (.int i :: .ref a :: st) h := by
  intro H locs ls hP hS hl
  obtain ⟨ws, k9, e1, p1, p2, p3⟩ := hP.cel1 ha
  exact va_aldq C.1 C.2.1 C.2.2.2.2.2.1 p1 k9 t0 e1 ht hi hd (k H locs ls hP hS hl)
theorem w_iast (C : CX K own cc nL R) {a m : Nat} {f : Nat → Int32} (ha : h a = some (.inl (Kt K 0, m, .inl f))) {i x : Int32} (hi : vp_in i m) (hd : decode cc pc = .ok (.iastore, 1)) (k : WW K n (pc + 1) lv st (hu h a (.inl (Kt K 0, m, .inl (upd f i.toNatClampNeg x))))) : WW K n pc lv (.int x :: .int i :: .ref a :: st) h := by
  intro H locs ls hP hS hl
  obtain ⟨ws, k9, e1, p1, p2, p3⟩ := hP.cel1 ha
  exact va_iast C.1 C.2.1 C.2.2.2.2.2.1 p1 p2 hS k9 0 e1 rfl hi hd (fun H1 locs1 q1 q2 q3 => k H1 locs1 ls (p3 _ _ q1 q2) q3 hl)
theorem w_last (C : CX K own cc nL R) {a m : Nat} {f : Nat → Int64} (ha : h a = some (.inl (Kt K 1, m, .inr (.inl f)))) {i : Int32} {x : Int64} (hi : vp_in i m) (hd : decode cc pc = .ok (.lastore, 1)) (k : WW K n (pc + 1) lv st (hu h a (.inl (Kt K 1, m, .inr (.inl (vp_updL f i.toNatClampNeg x)))))) : WW K n pc lv (.long x :: .int i :: .ref a :: st) h := by
  intro H locs ls hP hS hl
  obtain ⟨ws, k9, e1, p1, p2, p3⟩ := hP.cel1 ha
  exact va_last C.1 C.2.1 C.2.2.2.2.2.1 p1 p2 hS k9 1 e1 rfl hi hd (fun H1 locs1 q1 q2 q3 => k H1 locs1 ls (p3 _ _ q1 q2) q3 hl)
theorem w_dast (C : CX K own cc nL R) {a m : Nat} {f : Nat → UInt64} (ha : h a = some (.inl (Kt K 2, m, .inr (.inr (.inr (.inl f)))))) {i : Int32} {x : UInt64} (hi : vp_in i m) (hd : decode cc pc = .ok (.dastore, 1)) (k : WW K n (pc + 1) lv st (hu h a (.inl (Kt K 2, m, .inr (.inr (.inr (.inl (vf_upd f i.toNatClampNeg x)))))))) : WW K n pc lv (.double x :: .int i :: .ref a :: st) h := by
  intro H locs ls hP hS hl
  obtain ⟨ws, k9, e1, p1, p2, p3⟩ := hP.cel1 ha
  exact va_dast C.1 C.2.1 C.2.2.2.2.2.1 p1 p2 hS k9 2 e1 rfl hi hd (fun H1 locs1 q1 q2 q3 => k H1 locs1 ls (p3 _ _ q1 q2) q3 hl)
theorem w_aast (C : CX K own cc nL R) (t0 : Nat) {cA : ClassId} {r : vw_C} {a m v ci : Nat} {vs : List Value} {f : Nat → Option Nat} (ha : h a = some (.inl (cA, m, .inr (.inr (.inr (.inr f)))))) (ht : (tysK (Kt K))[t0]? = some (cA, .object r.1)) (hv : h v = some (.inr (ci, vs))) (hc : vwCl[ci]? = some r) {i : Int32} (hi : vp_in i m) (hd : decode cc pc = .ok (.aastore, 1))
    (k : WW K n (pc + 1) lv st (hu h a (.inl (cA, m, .inr (.inr (.inr (.inr (va_up f i.toNatClampNeg (some v))))))))) : WW K n pc lv (.ref v :: .int i :: .ref a :: st) h := by
  intro H locs ls hP hS hl
  obtain ⟨ws, k9, j9, e1, e2, p1, p2, p3⟩ := hP.cel2 ha hv
  exact va_astq C.1 C.2.1 C.2.2.2.2.2.1 p1 p2 hS k9 t0 j9 ci e1 ht e2 hc hi hd (fun H1 locs1 q1 q2 q3 => k H1 locs1 ls (p3 _ _ q1 q2) q3 hl)
end WWH
end
section
/-! CONTRACTS over abstract heaps, their starts, ends and calls -/
section SWS
variable {tc : Nat → ClassId} {A B : Nat → Prop} {U u s : State} {H H1 : Heap}
theorem SW.same (hv : u.vm = U.vm) (h : SW tc A u H) : SW tc A U H := by
  have al : u.vm.Alike U.vm := by rw [hv]; exact Vm.Alike.refl _
  obtain ⟨⟨a1, a2⟩, ⟨b1, b2⟩, ⟨c1, c2⟩, ⟨d1, d2⟩, e1, e2, f1, f2, g1, g2, g3, g5, k1, k2, k3, m1, m2, o1, o2, o3, o4, o5, o6⟩ := h
  exact ⟨⟨va_Z.moved al a1, va_T.moved al a2⟩, ⟨va_Z.moved al b1, va_T.moved al b2⟩, ⟨va_Z.moved al c1, va_T.moved al c2⟩, ⟨va_Z.moved al d1, va_T.moved al d2⟩, va_Z.moved al e1, va_Z.moved al e2, vx_Zq.moved al f1, vx_Zq.moved al f2,
    fun C T w => va_Nw.same rfl hv (g1 C T w), fun a i b n d q w => va_Nw.same rfl hv (g2 a i b n d q w), fun a i y q w => va_Nw.same rfl hv (g3 a i y q w), fun o k tx w => by obtain ⟨a, ha⟩ := g5 o k tx w; exact ⟨a, vk_R.same hv.symm ha⟩,
    va_Fw.moved (by decide) al k1, va_Fw.moved (by decide) al k2, va_Fw.moved (by decide) al k3, m1.moved al, m2.moved al, o1.moved al, o2.moved al, o3.moved al, o4.moved al, o5.moved al, o6.moved al⟩
theorem SW.warm (hW : s.WarmedH U.vm) (h : SW tc A s H) : SW tc A U H := by
  have al : s.vm.Alike U.vm := hW.alike
  obtain ⟨⟨a1, a2⟩, ⟨b1, b2⟩, ⟨c1, c2⟩, ⟨d1, d2⟩, e1, e2, f1, f2, g1, g2, g3, g5, k1, k2, k3, m1, m2, o1, o2, o3, o4, o5, o6⟩ := h
  exact ⟨⟨va_Z.moved al a1, va_T.moved al a2⟩, ⟨va_Z.moved al b1, va_T.moved al b2⟩, ⟨va_Z.moved al c1, va_T.moved al c2⟩, ⟨va_Z.moved al d1, va_T.moved al d2⟩, va_Z.moved al e1, va_Z.moved al e2, vx_Zq.moved al f1, vx_Zq.moved al f2,
    fun C T w => va_Nw.warmC hW (g1 C T w), fun a i b n d q w => va_Nw.warmF hW (g2 a i b n d q w), fun a i y q w => va_Nw.warmM hW (g3 a i y q w), fun o k tx w => by obtain ⟨a, ha⟩ := g5 o k tx w; exact ⟨a, vk_R.warm hW ha⟩,
    va_Fw.moved (by decide) al k1, va_Fw.moved (by decide) al k2, va_Fw.moved (by decide) al k3, m1.moved al, m2.moved al, o1.moved al, o2.moved al, o3.moved al, o4.moved al, o5.moved al, o6.moved al⟩
theorem SW.kept (h : SW tc A U H) (hq : ∀ a : Nat, a < H.size → ¬ A a → H1[a]? = H[a]?) : SW tc A U H1 := by
  obtain ⟨⟨a1, a2⟩, ⟨b1, b2⟩, ⟨c1, c2⟩, ⟨d1, d2⟩, e1, e2, f1, f2, g⟩ := h
  exact ⟨⟨a1.kept hq, a2.kept hq⟩, ⟨b1.kept hq, b2.kept hq⟩, ⟨c1.kept hq, c2.kept hq⟩, ⟨d1.kept hq, d2.kept hq⟩, e1.kept hq, e2.kept hq, f1.kept hq, f2.kept hq, g⟩
theorem SW.narrow (h : SW tc A U H) (hAB : ∀ q, B q → A q) : SW tc B U H := by
  obtain ⟨⟨a1, a2⟩, ⟨b1, b2⟩, ⟨c1, c2⟩, ⟨d1, d2⟩, e1, e2, f1, f2, g⟩ := h
  exact ⟨⟨a1.narrow hAB, a2.narrow hAB⟩, ⟨b1.narrow hAB, b2.narrow hAB⟩, ⟨c1.narrow hAB, c2.narrow hAB⟩, ⟨d1.narrow hAB, d2.narrow hAB⟩, e1.narrow hAB, e2.narrow hAB, f1.narrow hAB, f2.narrow hAB, g⟩
end SWS
/-- a method's start: the heap h, and what stands fast -/
def PcH (D : va_G) (tc : Nat → ClassId) (args : List Value) (h : HM) (sz : Nat) : Array Value → State → Prop := va_Pc args (fun U => U.heap.size = sz ∧ PW D (fun _ => True) h U.heap ∧ KW D tc U ∧ SW tc (dm h sz) U U.heap)
/-- its end: the answer r, the heap h' -/
def QcH (D : va_G) (h : HM) (sz : Nat) (post : Option Value → HM → Prop) : Array Value → State → Outcome → State → Prop := fun _ st oc t => (∃ (r : Option Value) (h' : HM), oc = .returned r ∧ post r h' ∧ PW D (dm h sz) h' t.heap) ∧ va_F (dm h sz) st t
def XcH (D : va_G) (h : HM) (sz : Nat) (px : String → HM → Prop) : String → State → State → Prop := fun E st t => (∃ h' : HM, px E h' ∧ PW D (dm h sz) h' t.heap) ∧ va_F (dm h sz) st t
/-- a contract: from the heap h, with these arguments, the method returns, and post holds of the answer and the heap -/
def CT (l : Launch) (D : va_G) (tc : Nat → ClassId) (y : MethodName) (cc : ByteArray) (nL : Nat) (ret : Option FieldType) (rm : Room) (args : List Value) (h : HM) (post : Option Value → HM → Prop) : Prop :=
  ∀ sz : Nat, Met l y (lw_ws y cc nL ret) rm (PcH D tc args h sz) (QcH D h sz post) rm.cells rm.slots (dm h sz)
/-- a contract of a method that returns or throws -/
def CTX (l : Launch) (D : va_G) (tc : Nat → ClassId) (y : MethodName) (cc : ByteArray) (nL : Nat) (ret : Option FieldType) (rm : Room) (args : List Value) (h : HM) (post : Option Value → HM → Prop) (px : String → HM → Prop) : Prop :=
  ∀ sz : Nat, vx_Met l y (lw_ws y cc nL ret) rm (PcH D tc args h sz) (QcH D h sz post) (XcH D h sz px) rm.cells rm.slots (dm h sz)
theorem PcH_blind (D : va_G) (tc : Nat → ClassId) (args : List Value) (h : HM) (sz : Nat) : FrameBlind (PcH D tc args h sz) := by
  intro a U g mk ⟨h1, h2, h3, h4, h5⟩
  exact ⟨h1, h2, h3, va_K.moved (u := U) (U := U.calling g mk a) (Vm.Alike.refl U.vm) h4, SW.same (u := U) (U := U.calling g mk a) rfl h5⟩
/-- the locals at a method's start -/
def lvE : List Value → List (Option Value)
  | [] => []
  | v :: vs => if v.category = 2 then some v :: none :: lvE vs else some v :: lvE vs
theorem lvE_len : ∀ vs : List Value, (lvE vs).length = (lg_sl vs).length
  | [] => rfl
  | v :: vs => by
    by_cases hc : v.category = 2
    · simp [lvE, lg_sl, hc, lvE_len vs]
    · simp [lvE, lg_sl, hc, lvE_len vs]
theorem lvE_at : ∀ (vs : List Value) (i j : Nat) (v : Value), (lvE vs)[j]? = some (some v) → (i + j, v) ∈ lv_args i vs
  | [], i, j, v, h => by simp [lvE] at h
  | w :: vs, i, j, v, h => by
    by_cases hc : w.category = 2
    · simp only [lvE, hc, if_true] at h
      simp only [lv_args, hc, if_true]
      match j, h with
      | 0, h => simp at h; simp [h]
      | 1, h => simp at h
      | j + 2, h =>
        have := lvE_at vs (i + 2) j v (by simpa using h)
        exact List.mem_cons_of_mem _ (by rw [show i + (j + 2) = i + 2 + j by omega]; exact this)
    · simp only [lvE, hc, if_false] at h
      simp only [lv_args, hc, if_false]
      match j, h with
      | 0, h => simp at h; simp [h]
      | j + 1, h =>
        have := lvE_at vs (i + 1) j v (by simpa using h)
        exact List.mem_cons_of_mem _ (by rw [show i + (j + 1) = i + 1 + j by omega]; exact this)
theorem lvE_start {vs : List Value} {n : Nat} {lv : List (Option Value)} (he : lvE vs ++ List.replicate (n - (lvE vs).length) none = lv) (hl : lv.length = n) : lvh ((lg_sl vs ++ List.replicate (n - (lg_sl vs).length) Slot.unset).toArray) lv := by
  have h1 : (lg_sl vs).length ≤ n := by
    rw [← lvE_len, ← hl, ← he, List.length_append]
    omega
  obtain ⟨a, b, c⟩ := lv_entry vs h1
  refine ⟨a.trans hl.symm, b, fun i v hi => ?_⟩
  rw [← he] at hi
  by_cases hlt : i < (lvE vs).length
  · rw [List.getElem?_append_left hlt] at hi
    have := lvE_at vs 0 i v hi
    rw [Nat.zero_add] at this
    exact c (i, v) this
  · rw [List.getElem?_append_right (by omega), List.getElem?_replicate] at hi
    split at hi <;> cases hi
/-- what a method's body has in hand: whose start it is, and what is owed at its end -/
def MX (K : KC) (D : va_G) (tc : Nat → ClassId) (l : Launch) (rm : Room) (ret : Option FieldType) (h : HM) (post : Option Value → HM → Prop) (nm : String) : Prop :=
  D = KD K ∧ tc = Kt K ∧ l = Kl K ∧ KA K = dm h (Ks K).heap.size ∧ (Kme K).sig.returnType = ret ∧ (Kme K).locks = false ∧ (Kme K).name = nm ∧
  (KQ K = MQ (Kbe K) (QcH (KD K) h (Ks K).heap.size post) (Kar K) (Ks K) rm.cells rm.slots (dm h (Ks K).heap.size) ∨ ∃ px, KQ K = vx_MQ (Kbe K) (QcH (KD K) h (Ks K).heap.size post) (XcH (KD K) h (Ks K).heap.size px) (Kar K) (Ks K) rm.cells rm.slots (dm h (Ks K).heap.size))
/-- what a body that may throw has beside -/
def MXX (K : KC) (rm : Room) (h : HM) (post : Option Value → HM → Prop) (px : String → HM → Prop) : Prop :=
  KA K = dm h (Ks K).heap.size ∧ (Kme K).locks = false ∧ (∀ z ∈ (Kc K).exceptionTable.toList, False) ∧ KQ K = vx_MQ (Kbe K) (QcH (KD K) h (Ks K).heap.size post) (XcH (KD K) h (Ks K).heap.size px) (Kar K) (Ks K) rm.cells rm.slots (dm h (Ks K).heap.size)
theorem CT.start {l : Launch} {D : va_G} {tc : Nat → ClassId} {y : MethodName} {cc : ByteArray} {nL : Nat} {ret : Option FieldType} {rm : Room} {args : List Value} {h : HM} {post : Option Value → HM → Prop} (lv : List (Option Value)) (hy : plainName y.cls = true) (hl : l.stackTraces = false)
    (he : lvE args ++ List.replicate (nL - (lvE args).length) none = lv) (hn : lv.length = nL)
    (body : ∀ K : KC, CX K y.cls cc nL rm → MX K D tc l rm ret h post y.name → WW K (0, 0) 0 lv [] h) : CT l D tc y cc nL ret rm args h post := by
  intro sz
  refine Met.ofW (cc := cc) (maxL := nL) (ret := ret) hy rfl ?_
  intro p e s m args9 below meth c s₁ B hml hv
  obtain ⟨rfl, hsz, hP, hK, hS⟩ := hv
  subst hsz
  have hin : meth.name = y.name := (name_of_methodNamed B.named B.method).1
  have hts := atoms_spec (ws := lw_ws y cc nL ret) B.pre
  have hD : PW D (dm h s.heap.size) h s.heap := hP.weaken (fun a e9 ha => Or.inl ⟨e9, ha⟩)
  have key := body (p, l, e, rm, s, m, args.toArray, below, meth, c, D, tc, dm h s.heap.size, MQ below (QcH D h s.heap.size post) args.toArray s rm.cells rm.slots (dm h s.heap.size))
    ⟨B.exec, B.bytes, hml, findClass_of_methodNamed B.named, fun w hw => hts w (List.mem_cons_of_mem _ hw), hK, fun q hq => Or.inr hq, rfl, hS, hl⟩
    ⟨rfl, rfl, rfl, rfl, B.returns, B.notSynchronized, hin, Or.inl rfl⟩
  rw [lg_entry_eq]
  exact key s.heap [] _ hD va_S.rf (lvE_start he hn)
theorem CTX.start {l : Launch} {D : va_G} {tc : Nat → ClassId} {y : MethodName} {cc : ByteArray} {nL : Nat} {ret : Option FieldType} {rm : Room} {args : List Value} {h : HM} {post : Option Value → HM → Prop} {px : String → HM → Prop} (lv : List (Option Value)) (hy : plainName y.cls = true) (hl : l.stackTraces = false)
    (he : lvE args ++ List.replicate (nL - (lvE args).length) none = lv) (hn : lv.length = nL)
    (body : ∀ K : KC, CX K y.cls cc nL rm → MX K D tc l rm ret h post y.name → MXX K rm h post px → WW K (0, 0) 0 lv [] h) : CTX l D tc y cc nL ret rm args h post px := by
  intro sz
  refine vx_ofW (cc := cc) (maxL := nL) (ret := ret) hy rfl ?_
  intro p e s m args9 below meth c s₁ B hml ht hv
  obtain ⟨rfl, hsz, hP, hK, hS⟩ := hv
  subst hsz
  have hin : meth.name = y.name := (name_of_methodNamed B.named B.method).1
  have hts := atoms_spec (ws := lw_ws y cc nL ret) B.pre
  have hD : PW D (dm h s.heap.size) h s.heap := hP.weaken (fun a e9 ha => Or.inl ⟨e9, ha⟩)
  have key := body (p, l, e, rm, s, m, args.toArray, below, meth, c, D, tc, dm h s.heap.size, vx_MQ below (QcH D h s.heap.size post) (XcH D h s.heap.size px) args.toArray s rm.cells rm.slots (dm h s.heap.size))
    ⟨B.exec, B.bytes, hml, findClass_of_methodNamed B.named, fun w hw => hts w (List.mem_cons_of_mem _ hw), hK, fun q hq => Or.inr hq, rfl, hS, hl⟩
    ⟨rfl, rfl, rfl, rfl, B.returns, B.notSynchronized, hin, Or.inr ⟨px, rfl⟩⟩
    ⟨rfl, B.notSynchronized, ht, rfl⟩
  rw [lg_entry_eq]
  exact key s.heap [] _ hD va_S.rf (lvE_start he hn)
section ENDS
variable {K : KC} {n : Nat × Nat} {pc : Nat} {lv lv' : List (Option Value)} {st : List Value} {h h0 : HM} {own nm : String} {cc : ByteArray} {nL : Nat} {R rm : Room} {D : va_G} {tc : Nat → ClassId} {l : Launch} {ret : Option FieldType} {post : Option Value → HM → Prop}
theorem w_endQ (M : MX K D tc l rm ret h0 post nm) {g : JFrame} {H : Heap} {locs : List Loc}
    (k : W (Kp K) (Kl K) (Ke K) (KR K) (Ks K) (Km K) (Kar K) (Kbe K) (Kme K) (Kc K) H locs rm.cells rm.slots (MQ (Kbe K) (QcH (KD K) h0 (Ks K).heap.size post) (Kar K) (Ks K) rm.cells rm.slots (dm h0 (Ks K).heap.size)) g) :
    W (Kp K) (Kl K) (Ke K) (KR K) (Ks K) (Km K) (Kar K) (Kbe K) (Kme K) (Kc K) H locs rm.cells rm.slots (KQ K) g := by
  obtain ⟨-, -, -, -, -, -, -, h9 | ⟨px, h9⟩⟩ := M
  · rw [h9]; exact k
  · rw [h9]; exact vx_ret k
theorem w_qc {A : Nat → Prop} (M : MX K D tc l rm ret h0 post nm) {H : Heap} {locs : List Loc} (hP : PW (KD K) (KA K) h H) (hS : va_S (KA K) (Ks K).heap H locs) {r : Option Value} (hp : post r h) : ∀ t : State, t.heap = H → (Ks K).WarmedH t.vm → QcH (KD K) h0 (Ks K).heap.size post (Kar K) (Ks K) (.returned r) t := by
  obtain ⟨-, -, -, hA, -⟩ := M
  intro t ht hW
  rw [hA] at hP hS
  exact ⟨⟨r, h, rfl, hp, by rw [ht]; exact hP⟩, hS.F ht⟩
theorem w_ql (M : MX K D tc l rm ret h0 post nm) {H : Heap} {locs : List Loc} (hS : va_S (KA K) (Ks K).heap H locs) : ∀ q ∈ locs, dm h0 (Ks K).heap.size q.base := by
  obtain ⟨-, -, -, hA, -⟩ := M
  rw [hA] at hS
  exact hS.2.2
theorem w_iret (C : CX K own cc nL R) (M : MX K D tc l rm (some .int) h0 post nm) {v : Int32} (hd : decode cc pc = .ok (.ireturn, 1)) (hn : n.1 ≤ rm.cells ∧ n.2 ≤ rm.slots) (hp : post (some (.int v)) h) : WW K n pc lv [.int v] h := fun H locs ls hP hS hl =>
  W.widen hn.1 hn.2 (w_endQ M (W.iret C.1 C.2.1 M.2.2.2.2.1 (w_qc (A := KA K) M hP hS hp) (w_ql M hS) hd M.2.2.2.2.2.1))
theorem w_zret (C : CX K own cc nL R) (M : MX K D tc l rm (some .boolean) h0 post nm) {v : Int32} (hd : decode cc pc = .ok (.ireturn, 1)) (hn : n.1 ≤ rm.cells ∧ n.2 ≤ rm.slots) (hv : narrow .boolean (.int v) = .int v) (hp : post (some (.int v)) h) : WW K n pc lv [.int v] h := fun H locs ls hP hS hl =>
  W.widen hn.1 hn.2 (w_endQ M (W.zret C.1 C.2.1 M.2.2.2.2.1 hv (w_qc (A := KA K) M hP hS hp) (w_ql M hS) hd M.2.2.2.2.2.1))
theorem w_lret (C : CX K own cc nL R) (M : MX K D tc l rm (some .long) h0 post nm) {v : Int64} (hd : decode cc pc = .ok (.lreturn, 1)) (hn : n.1 ≤ rm.cells ∧ n.2 ≤ rm.slots) (hp : post (some (.long v)) h) : WW K n pc lv [.long v] h := fun H locs ls hP hS hl =>
  W.widen hn.1 hn.2 (w_endQ M (W.lret C.1 C.2.1 M.2.2.2.2.1 (w_qc (A := KA K) M hP hS hp) (w_ql M hS) hd M.2.2.2.2.2.1))
theorem w_dret (C : CX K own cc nL R) (M : MX K D tc l rm (some .double) h0 post nm) {v : UInt64} (hd : decode cc pc = .ok (.dreturn, 1)) (hn : n.1 ≤ rm.cells ∧ n.2 ≤ rm.slots) (hp : post (some (.double v)) h) : WW K n pc lv [.double v] h := fun H locs ls hP hS hl =>
  W.widen hn.1 hn.2 (w_endQ M (W.dret C.1 C.2.1 M.2.2.2.2.1 (w_qc (A := KA K) M hP hS hp) (w_ql M hS) hd M.2.2.2.2.2.1))
theorem w_fret (C : CX K own cc nL R) (M : MX K D tc l rm (some .float) h0 post nm) {v : UInt32} (hd : decode cc pc = .ok (.freturn, 1)) (hn : n.1 ≤ rm.cells ∧ n.2 ≤ rm.slots) (hp : post (some (.float v)) h) : WW K n pc lv [.float v] h := fun H locs ls hP hS hl =>
  W.widen hn.1 hn.2 (w_endQ M (W.fret C.1 C.2.1 M.2.2.2.2.1 (w_qc (A := KA K) M hP hS hp) (w_ql M hS) hd M.2.2.2.2.2.1))
theorem w_aret (C : CX K own cc nL R) {rt : FieldType} (M : MX K D tc l rm (some rt) h0 post nm) {v : Value} (hd : decode cc pc = .ok (.areturn, 1)) (hn : n.1 ≤ rm.cells ∧ n.2 ≤ rm.slots) (hrt : (∃ n, rt = .object n) ∨ ∃ t, rt = .array t) (hv : v = .null ∨ ∃ a, v = .ref a) (hp : post (some v) h) : WW K n pc lv [v] h := fun H locs ls hP hS hl =>
  W.widen hn.1 hn.2 (w_endQ M (W.aret C.1 C.2.1 M.2.2.2.2.1 hrt hv (w_qc (A := KA K) M hP hS hp) (w_ql M hS) hd M.2.2.2.2.2.1))
theorem w_vret (C : CX K own cc nL R) (M : MX K D tc l rm none h0 post nm) (hd : decode cc pc = .ok (.return_, 1)) (hn : n.1 ≤ rm.cells ∧ n.2 ≤ rm.slots) (hp : post none h) : WW K n pc lv [] h := fun H locs ls hP hS hl =>
  W.widen hn.1 hn.2 (w_endQ M (W.vret C.1 C.2.1 M.2.2.2.2.1 (w_qc (A := KA K) M hP hS hp) (w_ql M hS) hd M.2.2.2.2.2.1))
end ENDS
end
section
/-- a frame over which an exception of that name goes -/
def WX (K : KC) (n : Nat × Nat) (pc : Nat) (lv : List (Option Value)) (st : List Value) (h : HM) (E : String) : Prop :=
  ∀ (H : Heap) (locs : List Loc) (ls : Array Slot) (q : Addr) (ce : Cell), PW (KD K) (KA K) h H → va_S (KA K) (Ks K).heap H locs → lvh ls lv → H[q]? = some ce → ce.vm = .none → (Ks K).vm.findClass E = some ce.cls →
    vx_W (Kp K) (Kl K) (Ke K) (KR K) (Ks K) (Km K) (Kar K) (Kbe K) (Kme K) (Kc K) H locs n.1 n.2 (KQ K) (F0 (Km K) pc ls st) q
theorem goodIn_ws {y : MethodName} {cc : ByteArray} {nL : Nat} {ret : Option FieldType} (h : Cond.code y cc nL ret ∈ lw_G) : GoodIn lw_G (lw_ws y cc nL ret) := fun w hw => by
  rcases List.mem_cons.mp hw with e | hw
  · rw [e]; exact ⟨h, good_of_word (G_good h)⟩
  · exact ⟨hw, good_of_word (G_good hw)⟩
/-- what is decided of a callee's name -/
def okY (y : MethodName) (k : Nat) : Bool := decide (y.cls ≠ "java/lang/invoke/MethodHandle") && decide (y.cls ≠ "java/lang/invoke/VarHandle") && ((parseMethodDescriptor y.desc).map (fun d => d.parameters.length) == some k)
theorem okY_spec {y : MethodName} {k : Nat} (h : okY y k = true) : y.cls ≠ "java/lang/invoke/MethodHandle" ∧ y.cls ≠ "java/lang/invoke/VarHandle" ∧ (parseMethodDescriptor y.desc).map (fun d => d.parameters.length) = some k := by
  simp only [okY, Bool.and_eq_true, decide_eq_true_eq, beq_iff_eq] at h
  exact ⟨h.1.1, h.1.2, h.2⟩
/-- what is decided of the room: the callee's in the caller's -/
def okR (rm R : Room) (nL' : Nat) : Bool := Nat.ble (rm.frames + 1) R.frames && Nat.ble (8 + (nL' + 11) + rm.locals) R.locals
theorem okR_spec {rm R : Room} {nL' : Nat} (h : okR rm R nL' = true) : rm.frames + 1 ≤ R.frames ∧ 8 + (nL' + 11) + rm.locals ≤ R.locals := by
  simp only [okR, Bool.and_eq_true, Nat.ble_eq] at h
  exact h
def okS (st : List Value) : Bool := Nat.ble (st.map fun v => v.category).sum 8
section RUNS
variable {K : KC} {n : Nat × Nat} {pc : Nat} {lv lv' : List (Option Value)} {st st0 : List Value} {h : HM} {own : String} {cc : ByteArray} {nL : Nat} {R : Room}
theorem cx_fix (C : CX K own cc nL R) : CallFix (Kp K) (Km K) (Kc K) cc nL (Ks K) (Kar K) lw_G own := ⟨C.1, C.2.1, C.2.2.1, C.2.2.2.1, C.2.2.2.2.1⟩
theorem dm_sub (C : CX K own cc nL R) {H : Heap} {locs : List Loc} (hP : PW (KD K) (KA K) h H) (hS : va_S (KA K) (Ks K).heap H locs) : ∀ q, dm h H.size q → KA K q := by
  intro q hq
  rcases hq with ⟨e, he⟩ | hq
  · exact hP.inA he
  · exact C.2.2.2.2.2.2.1 q (Nat.le_trans hS.1 hq)
theorem cx_pre (C : CX K own cc nL R) {H : Heap} {locs : List Loc} (hP : PW (KD K) (KA K) h H) (hS : va_S (KA K) (Ks K).heap H locs) (As : List Value) : ∀ U : State, U.heap = H → (Ks K).WarmedH U.vm → PcH (KD K) (Kt K) As h H.size As.toArray U := by
  intro U hU hW
  refine ⟨rfl, by rw [hU], by rw [hU]; exact hP.weaken (fun _ _ _ => trivial), va_K.moved hW.alike C.2.2.2.2.2.1, ?_⟩
  rw [hU]
  exact SW.warm hW ((C.2.2.2.2.2.2.2.2.1.kept (fun a h1 h2 => hS.2.1 a h1 h2)).narrow (dm_sub C hP hS))
theorem w_run (C : CX K own cc nL R) {H : Heap} {locs : List Loc} {ls : Array Slot} (hP : PW (KD K) (KA K) h H) (hS : va_S (KA K) (Ks K).heap H locs) (hl : lvh ls lv) {mc ms : Nat} {post : Option Value → HM → Prop} {a : Array Value}
    (hr : va_Run (Kp K) (Kl K) (Ke K) (KR K) (Ks K) (Km K) (Kar K) (Kbe K) (Kme K) (Kc K) H locs n.1 n.2 mc ms (F0 (Km K) pc ls st0) st (QcH (KD K) h H.size post a) (dm h H.size))
    (kk : ∀ (r : Option Value) (h' : HM), post r h' → WW K (n.1 + mc, n.2 + ms) (pc + 3) lv (r.toList ++ st) h') : W (Kp K) (Kl K) (Ke K) (KR K) (Ks K) (Km K) (Kar K) (Kbe K) (Kme K) (Kc K) H locs n.1 n.2 (KQ K) (F0 (Km K) pc ls st0) := by
  intro T hT X
  obtain ⟨v, st₀, t, T', L, h0, X', hL, e1, e2, ⟨⟨r, h', hv, hp, hP'⟩, hF⟩, st⟩ := hr T hT X
  cases hv
  have hA := dm_sub C hP hS
  obtain ⟨k1, k2, k3⟩ := vx_keep h0 e1 hS (fun q _ z => hA q z) (fun q z => hA q z) hL hF
  obtain ⟨t2, a1, b1⟩ := kk v h' hp T'.heap (locs ++ L) ls (by rw [e1]; exact hP'.weaken (fun a e9 ha => hA a (hP'.inA ha))) k3 hl T' rfl X'
  exact ⟨t2, st t2 a1, b1⟩
theorem w_run5 (C : CX K own cc nL R) {H : Heap} {locs : List Loc} {ls : Array Slot} (hP : PW (KD K) (KA K) h H) (hS : va_S (KA K) (Ks K).heap H locs) (hl : lvh ls lv) {mc ms : Nat} {post : Option Value → HM → Prop} {a : Array Value}
    (hr : va_Run5 (Kp K) (Kl K) (Ke K) (KR K) (Ks K) (Km K) (Kar K) (Kbe K) (Kme K) (Kc K) H locs n.1 n.2 mc ms (F0 (Km K) pc ls st0) st (QcH (KD K) h H.size post a) (dm h H.size))
    (kk : ∀ (r : Option Value) (h' : HM), post r h' → WW K (n.1 + mc, n.2 + ms) (pc + 5) lv (r.toList ++ st) h') : W (Kp K) (Kl K) (Ke K) (KR K) (Ks K) (Km K) (Kar K) (Kbe K) (Kme K) (Kc K) H locs n.1 n.2 (KQ K) (F0 (Km K) pc ls st0) := by
  intro T hT X
  obtain ⟨v, st₀, t, T', L, h0, X', hL, e1, e2, ⟨⟨r, h', hv, hp, hP'⟩, hF⟩, st⟩ := hr T hT X
  cases hv
  have hA := dm_sub C hP hS
  obtain ⟨k1, k2, k3⟩ := vx_keep h0 e1 hS (fun q _ z => hA q z) (fun q z => hA q z) hL hF
  obtain ⟨t2, a1, b1⟩ := kk v h' hp T'.heap (locs ++ L) ls (by rw [e1]; exact hP'.weaken (fun a e9 ha => hA a (hP'.inA ha))) k3 hl T' rfl X'
  exact ⟨t2, st t2 a1, b1⟩
theorem w_runX (C : CX K own cc nL R) {H : Heap} {locs : List Loc} {ls : Array Slot} (hP : PW (KD K) (KA K) h H) (hS : va_S (KA K) (Ks K).heap H locs) (hl : lvh ls lv) {mc ms : Nat} {post : Option Value → HM → Prop} {px : String → HM → Prop} {a : Array Value}
    (hr : vx_Run (Kp K) (Kl K) (Ke K) (KR K) (Ks K) (Km K) (Kar K) (Kbe K) (Kme K) (Kc K) H locs n.1 n.2 mc ms (F0 (Km K) pc ls st0) st (QcH (KD K) h H.size post a) (XcH (KD K) h H.size px) (dm h H.size))
    (kk : ∀ (r : Option Value) (h' : HM), post r h' → WW K (n.1 + mc, n.2 + ms) (pc + 3) lv (r.toList ++ st) h')
    (kx : ∀ (E : String) (h' : HM), px E h' → WX K (n.1 + mc, n.2 + ms) pc lv st h' E) : W (Kp K) (Kl K) (Ke K) (KR K) (Ks K) (Km K) (Kar K) (Kbe K) (Kme K) (Kc K) H locs n.1 n.2 (KQ K) (F0 (Km K) pc ls st0) := by
  intro T hT X
  have hA := dm_sub C hP hS
  rcases hr T hT X with ⟨v, st₀, t, T', L, h0, X', hL, e1, e2, ⟨⟨r, h', hv, hp, hP'⟩, hF⟩, st⟩ | ⟨q, st₀, t, T', L, E, ce, h0, X', hL, e1, e2, ⟨⟨h', hp, hP'⟩, hF⟩, hce, hcv, hcl, st⟩
  · cases hv
    obtain ⟨k1, k2, k3⟩ := vx_keep h0 e1 hS (fun q _ z => hA q z) (fun q z => hA q z) hL hF
    obtain ⟨t2, a1, b1⟩ := kk v h' hp T'.heap (locs ++ L) ls (by rw [e1]; exact hP'.weaken (fun a e9 ha => hA a (hP'.inA ha))) k3 hl T' rfl X'
    exact ⟨t2, st t2 a1, b1⟩
  · obtain ⟨k1, k2, k3⟩ := vx_keep h0 e1 hS (fun q _ z => hA q z) (fun q z => hA q z) hL hF
    obtain ⟨t2, a1, b1⟩ := kx E h' hp T'.heap (locs ++ L) ls q ce (by rw [e1]; exact hP'.weaken (fun a e9 ha => hA a (hP'.inA ha))) k3 hl (by rw [e1]; exact hce) hcv hcl T' rfl X'
    exact ⟨t2, st.trans a1, b1⟩
theorem h_recv {H : Heap} (C : CX K own cc nL R) {b ci : Nat} {fs : List Value} {r : vw_C} (hP : PW (KD K) (KA K) h H) (hb : h b = some (.inr (ci, fs))) (hc : vwCl[ci]? = some r) : ∃ cell : Cell, H[b]? = some cell ∧ cell.vm.isStatics = false ∧ (Ks K).vm.findClass r.1 = some cell.cls := by
  obtain ⟨ws, k9, e1, p1, p2, -⟩ := hP.cel1 hb
  exact va_recv C.2.2.2.2.2.1 p1 hc e1
variable {y : MethodName} {cc' : ByteArray} {nL' idx : Nat} {ret' : Option FieldType} {rm : Room} {As : List Value} {post : Option Value → HM → Prop} {px : String → HM → Prop}
theorem w_S (C : CX K own cc nL R) (hM : CT (Kl K) (KD K) (Kt K) y cc' nL' ret' rm As h post) (w1 : Cond.methodLink own idx y ∈ lw_G) (w2 : Cond.static y ∈ lw_G) (w3 : Cond.initialized y.cls ∈ lw_G) (w4 : Cond.code y cc' nL' ret' ∈ lw_G)
    (hy : okY y As.length = true) (hR : okR rm R nL' = true) (hc : okS st = true) (hn : n.1 + rm.cells ≤ R.cells ∧ n.2 + rm.slots ≤ R.slots) (hnl : lv.length = nL) (hst : st0 = As.reverse ++ st) (hd : decode cc pc = .ok (.invokestatic idx, 3))
    (kk : ∀ (r : Option Value) (h' : HM), post r h' → WW K (n.1 + rm.cells, n.2 + rm.slots) (pc + 3) lv (r.toList ++ st) h') : WW K n pc lv st0 h := by
  intro H locs ls hP hS hl
  have hR9 := C.2.2.2.2.2.2.2.1
  refine w_run C hP hS hl (va_runS (cx_fix C) (hM H.size) ⟨callB_of As.length C.2.2.2.2.1 (goodIn_ws w4) rfl rfl rfl (C.2.2.2.2.1 _ w3) (C.2.2.2.2.1 _ w1) (okY_spec hy) (by rw [hR9]; exact okR_spec hR), C.2.2.2.2.1 _ w2⟩ ⟨PcH_blind _ _ _ _ _, cx_pre C hP hS As⟩ rfl rfl (hl.1.trans hnl) hst (lv_room (by simpa [okS] using hc)) hd (by rw [hR9]; exact hn)) kk
theorem w_V (C : CX K own cc nL R) {b ci : Nat} {fs : List Value} {r : vw_C} (hM : CT (Kl K) (KD K) (Kt K) y cc' nL' ret' rm (.ref b :: As) h post) (hb : h b = some (.inr (ci, fs))) (hcl : vwCl[ci]? = some r) (w1 : Cond.methodLink own idx y ∈ lw_G) (w2 : Cond.instanceMethod y ∈ lw_G) (w3 : Cond.initialized y.cls ∈ lw_G) (w4 : Cond.code y cc' nL' ret' ∈ lw_G) (w5 : Cond.selects r.1 y y ∈ lw_G)
    (hy : okY y As.length = true) (hR : okR rm R nL' = true) (hc : okS st = true) (hn : n.1 + rm.cells ≤ R.cells ∧ n.2 + rm.slots ≤ R.slots) (hnl : lv.length = nL) (hst : st0 = As.reverse ++ .ref b :: st) (hd : decode cc pc = .ok (.invokevirtual idx, 3))
    (kk : ∀ (r : Option Value) (h' : HM), post r h' → WW K (n.1 + rm.cells, n.2 + rm.slots) (pc + 3) lv (r.toList ++ st) h') : WW K n pc lv st0 h := by
  intro H locs ls hP hS hl
  have hR9 := C.2.2.2.2.2.2.2.1
  refine w_run C hP hS hl (va_runV (cx_fix C) (hM H.size) ⟨callB_of As.length C.2.2.2.2.1 (goodIn_ws w4) rfl rfl rfl (C.2.2.2.2.1 _ w3) (C.2.2.2.2.1 _ w1) (okY_spec hy) (by rw [hR9]; exact okR_spec hR), C.2.2.2.2.1 _ w2, C.2.2.2.2.1 _ w5⟩ ⟨PcH_blind _ _ _ _ _, h_recv C hP hb hcl, cx_pre C hP hS (.ref b :: As)⟩ rfl rfl (hl.1.trans hnl) hst (lv_room (by simpa [okS] using hc)) hd (by rw [hR9]; exact hn)) kk
theorem w_I (C : CX K own cc nL R) {b : Nat} (hM : CT (Kl K) (KD K) (Kt K) y cc' nL' none rm (.ref b :: As) h post) (hin : y.name = "<init>") (w1 : Cond.methodLink own idx y ∈ lw_G) (w2 : Cond.instanceMethod y ∈ lw_G) (w3 : Cond.initialized y.cls ∈ lw_G) (w4 : Cond.code y cc' nL' none ∈ lw_G)
    (hy : okY y As.length = true) (hR : okR rm R nL' = true) (hc : okS st = true) (hn : n.1 + rm.cells ≤ R.cells ∧ n.2 + rm.slots ≤ R.slots) (hnl : lv.length = nL) (hst : st0 = As.reverse ++ .ref b :: st) (hd : decode cc pc = .ok (.invokespecial idx, 3))
    (kk : ∀ (r : Option Value) (h' : HM), post r h' → WW K (n.1 + rm.cells, n.2 + rm.slots) (pc + 3) lv (r.toList ++ st) h') : WW K n pc lv st0 h := by
  intro H locs ls hP hS hl
  have hR9 := C.2.2.2.2.2.2.2.1
  refine w_run C hP hS hl (va_runI (cx_fix C) (hM H.size) ⟨callB_of As.length C.2.2.2.2.1 (goodIn_ws w4) rfl rfl rfl (C.2.2.2.2.1 _ w3) (C.2.2.2.2.1 _ w1) (okY_spec hy) (by rw [hR9]; exact okR_spec hR), hin, C.2.2.2.2.1 _ w2⟩ ⟨PcH_blind _ _ _ _ _, cx_pre C hP hS (.ref b :: As)⟩ rfl rfl (hl.1.trans hnl) hst (lv_room (by simpa [okS] using hc)) hd (by rw [hR9]; exact hn)) kk
theorem w_SX (C : CX K own cc nL R) (hM : CTX (Kl K) (KD K) (Kt K) y cc' nL' ret' rm As h post px) (w1 : Cond.methodLink own idx y ∈ lw_G) (w2 : Cond.static y ∈ lw_G) (w3 : Cond.initialized y.cls ∈ lw_G) (w4 : Cond.code y cc' nL' ret' ∈ lw_G)
    (hy : okY y As.length = true) (hR : okR rm R nL' = true) (hc : okS st = true) (hn : n.1 + rm.cells ≤ R.cells ∧ n.2 + rm.slots ≤ R.slots) (hnl : lv.length = nL) (hst : st0 = As.reverse ++ st) (hd : decode cc pc = .ok (.invokestatic idx, 3))
    (kk : ∀ (r : Option Value) (h' : HM), post r h' → WW K (n.1 + rm.cells, n.2 + rm.slots) (pc + 3) lv (r.toList ++ st) h')
    (kx : ∀ (E : String) (h' : HM), px E h' → WX K (n.1 + rm.cells, n.2 + rm.slots) pc lv st h' E) : WW K n pc lv st0 h := by
  intro H locs ls hP hS hl
  have hR9 := C.2.2.2.2.2.2.2.1
  refine w_runX C hP hS hl (vx_runS (cx_fix C) (hM H.size) ⟨callB_of As.length C.2.2.2.2.1 (goodIn_ws w4) rfl rfl rfl (C.2.2.2.2.1 _ w3) (C.2.2.2.2.1 _ w1) (okY_spec hy) (by rw [hR9]; exact okR_spec hR), C.2.2.2.2.1 _ w2⟩ ⟨PcH_blind _ _ _ _ _, cx_pre C hP hS As⟩ rfl rfl (hl.1.trans hnl) hst (lv_room (by simpa [okS] using hc)) hd (by rw [hR9]; exact hn)) kk kx
theorem w_VX (C : CX K own cc nL R) {b ci : Nat} {fs : List Value} {r : vw_C} (hM : CTX (Kl K) (KD K) (Kt K) y cc' nL' ret' rm (.ref b :: As) h post px) (hb : h b = some (.inr (ci, fs))) (hcl : vwCl[ci]? = some r) (w1 : Cond.methodLink own idx y ∈ lw_G) (w2 : Cond.instanceMethod y ∈ lw_G) (w3 : Cond.initialized y.cls ∈ lw_G) (w4 : Cond.code y cc' nL' ret' ∈ lw_G) (w5 : Cond.selects r.1 y y ∈ lw_G)
    (hy : okY y As.length = true) (hR : okR rm R nL' = true) (hc : okS st = true) (hn : n.1 + rm.cells ≤ R.cells ∧ n.2 + rm.slots ≤ R.slots) (hnl : lv.length = nL) (hst : st0 = As.reverse ++ .ref b :: st) (hd : decode cc pc = .ok (.invokevirtual idx, 3))
    (kk : ∀ (r : Option Value) (h' : HM), post r h' → WW K (n.1 + rm.cells, n.2 + rm.slots) (pc + 3) lv (r.toList ++ st) h')
    (kx : ∀ (E : String) (h' : HM), px E h' → WX K (n.1 + rm.cells, n.2 + rm.slots) pc lv st h' E) : WW K n pc lv st0 h := by
  intro H locs ls hP hS hl
  have hR9 := C.2.2.2.2.2.2.2.1
  refine w_runX C hP hS hl (vx_runV (cx_fix C) (hM H.size) ⟨callB_of As.length C.2.2.2.2.1 (goodIn_ws w4) rfl rfl rfl (C.2.2.2.2.1 _ w3) (C.2.2.2.2.1 _ w1) (okY_spec hy) (by rw [hR9]; exact okR_spec hR), C.2.2.2.2.1 _ w2, C.2.2.2.2.1 _ w5⟩ ⟨PcH_blind _ _ _ _ _, h_recv C hP hb hcl, cx_pre C hP hS (.ref b :: As)⟩ rfl rfl (hl.1.trans hnl) hst (lv_room (by simpa [okS] using hc)) hd (by rw [hR9]; exact hn)) kk kx
/-- it goes on to the caller -/
theorem w_prop {h0 : HM} {post9 : Option Value → HM → Prop} {px9 : String → HM → Prop} {E : String} (X : MXX K rm h0 post9 px9) (hn : n.1 ≤ rm.cells ∧ n.2 ≤ rm.slots) (hp : px9 E h) : WX K n pc lv st h E := by
  intro H locs ls q ce hP hS hl hq hv hE
  obtain ⟨hA, hlk, ht, hQ⟩ := X
  rw [hQ]
  rw [hA] at hP hS
  exact vx_out (fun z hz => (ht z hz).elim) hlk hq hv hE (fun t ht _ => ⟨⟨h, hp, by rw [ht]; exact hP⟩, hS.F ht⟩) hS.2.2 hn.1 hn.2
end RUNS
end
section
section WWM
variable {K : KC} {n : Nat × Nat} {pc : Nat} {lv lv' : List (Option Value)} {st st0 : List Value} {h : HM} {own : String} {cc : ByteArray} {nL : Nat} {R : Room}
theorem cx_sw (C : CX K own cc nL R) : SW (Kt K) (KA K) (Ks K) (Ks K).heap := C.2.2.2.2.2.2.2.2.1
theorem cx_w (C : CX K own cc nL R) {w : Cond} (hw : w ∈ lw_G) : w.before (Kar K) (Ks K) = true := C.2.2.2.2.1 _ hw
theorem w_gets (C : CX K own cc nL R) {Cn nm d : String} {v : Value} {idx : Nat} (hZ : va_Z Cn nm d v (KA K) (Ks K) (Ks K).heap) (hw : Cond.fieldLink own idx Cn nm d ∈ lw_G) (hd : decode cc pc = .ok (.getstatic idx, 3)) (k : WW K n (pc + 3) lv (v :: st) h) : WW K n pc lv st h :=
  fun H locs ls hP hS hl => va_gets C.1 C.2.1 hZ hS C.2.2.2.1 (cx_w C hw) (fun z hz => hz) hd (k H locs ls hP hS hl)
theorem w_getsN (C : CX K own cc nL R) {Cn nm d host : String} {v : Value} {idx : Nat} (hZ : va_Z Cn nm d v (KA K) (Ks K) (Ks K).heap) (hw : Cond.fieldLinkNest own idx Cn nm d host ∈ lw_tbl) (hd : decode cc pc = .ok (.getstatic idx, 3)) (k : WW K n (pc + 3) lv (v :: st) h) : WW K n pc lv st h :=
  fun H locs ls hP hS hl => va_getsN C.1 C.2.1 hZ hS C.2.2.2.1 (va_Nw.use rfl ((cx_sw C).2.2.2.2.2.2.2.2.2.1 _ _ _ _ _ _ hw)) (fun z hz => hz) hd (k H locs ls hP hS hl)
theorem w_tlen (C : CX K own cc nL R) {ty : FieldType} {t N : Nat} {f : Nat → Value} (hT : va_T ty t N f (KA K) (Ks K) (Ks K).heap) (hd : decode cc pc = .ok (.arraylength, 1)) (k : WW K n (pc + 1) lv (.int (nI N) :: st) h) : WW K n pc lv (.ref t :: st) h :=
  fun H locs ls hP hS hl => va_tlen C.1 C.2.1 hT hS rfl hd (k H locs ls hP hS hl)
theorem w_tiald (C : CX K own cc nL R) {t N : Nat} {f : Nat → Value} (hT : va_T .int t N f (KA K) (Ks K) (Ks K).heap) {i : Int32} (hi : vp_in i N) (hd : decode cc pc = .ok (.iaload, 1)) (k : WW K n (pc + 1) lv (f i.toNatClampNeg :: st) h) : WW K n pc lv (.int i :: .ref t :: st) h :=
  fun H locs ls hP hS hl => va_ti C.1 C.2.1 hT hS hi rfl hd (k H locs ls hP hS hl)
theorem w_tdald (C : CX K own cc nL R) {t N : Nat} {f : Nat → Value} (hT : va_T .double t N f (KA K) (Ks K) (Ks K).heap) {i : Int32} (hi : vp_in i N) (hd : decode cc pc = .ok (.daload, 1)) (k : WW K n (pc + 1) lv (f i.toNatClampNeg :: st) h) : WW K n pc lv (.int i :: .ref t :: st) h := by
  intro H locs ls hP hS hl
  obtain ⟨cell, hc, hof, hkn, hle, hsz, hv9, hA9⟩ := hT
  have hlt : t < (Ks K).heap.size := (Array.getElem?_eq_some_iff.mp hc).1
  refine W.dald C.1 C.2.1 (a := t) (by rw [hS.2.1 t hlt hA9]; exact hc) hof hkn ?_ (hv9 _ ?_) (g := F0 (Km K) pc ls (.int i :: .ref t :: st)) rfl rfl hd (k H locs ls hP hS hl)
  · have := vp_in_iff.mp hi
    exact vp_in_iff.mpr ⟨this.1, by omega⟩
  · have := vp_in_iff.mp hi
    have h9 := this.1
    rw [Int32.toNatClampNeg]
    omega
theorem w_obji (C : CX K own cc nL R) {a idx : Nat} (w1 : Cond.methodLink own idx Lib.objectInit ∈ lw_G) (w2 : Cond.instanceMethod Lib.objectInit ∈ lw_G) (w3 : Cond.code Lib.objectInit ⟨#[0xb1]⟩ 1 none ∈ lw_G) (hnl : lv.length = nL) (hR : Nat.ble 1 R.frames = true) (hR2 : Nat.ble ((st.map fun v => v.category).sum + 12) R.locals = true) (hd : decode cc pc = .ok (.invokespecial idx, 3)) (k : WW K n (pc + 3) lv st h) : WW K n pc lv (.ref a :: st) h := by
  intro H locs ls hP hS hl
  have hR9 := C.2.2.2.2.2.2.2.1
  refine W.objInit C.1 C.2.1 C.2.2.2.1 (cx_w C w1) (cx_w C w2) (cx_w C w3) rfl (by rw [C.2.2.1]; exact hl.1.trans hnl) rfl hd (by rw [hR9]; exact Nat.ble_eq.mp hR) (by rw [hR9]; have := Nat.ble_eq.mp hR2; simpa using this) (k H locs ls hP hS hl)
/-- the number of a row's kind is the one of the tables -/
theorem kt_of {tys : List (ClassId × FieldType)} {cA : ClassId} {ty : FieldType} {D : va_G} {tc : Nat → ClassId} {s : State} (hK : KW D tc s) (t0 : Nat) (ht : ∃ cB, (tysK tc)[t0]? = some (cB, ty)) (h2 : va_K D vwCl (tysK tc ++ [(cA, ty)]) s) : (tysK tc)[t0]? = some (cA, ty) := by
  obtain ⟨cB, hB⟩ := ht
  have r1 := (hK.2 t0 _ hB).2
  have r2 := (h2.2 (tysK tc).length (cA, ty) (by simp)).2
  have key : cA = cB := by
    cases ty with
    | object C =>
      obtain ⟨-, -, -, -, -, e1⟩ := r1
      obtain ⟨-, -, -, -, -, e2⟩ := r2
      exact Option.some.inj (e2.symm.trans e1)
    | _ => exact Option.some.inj ((show s.vm.findClass _ = some cA from r2).symm.trans (show s.vm.findClass _ = some cB from r1))
  rw [key]
  exact hB
theorem w_newai (C : CX K own cc nL R) {m : Int32} {N : Nat} (w1 : Cond.arrayClass .int ∈ lw_G) (hm : ¬ m < 0) (hN : m.toNatClampNeg = N) (hb : N * 4 ≤ 536870912) (h1 : n.1 + 1 ≤ R.cells) (h2 : n.2 + N ≤ R.slots) (hd : decode cc pc = .ok (.newarray .int, 2))
    (k : ∀ q : Nat, h q = none → WW K (n.1 + 1, n.2 + N) (pc + 2) lv (.ref q :: st) (hu h q (.inl (Kt K 0, N, .inl (fun _ => 0))))) : WW K n pc lv (.int m :: st) h := by
  intro H locs ls hP hS hl
  obtain ⟨ws, p1, p2, p3⟩ := hP.celn
  have hR9 := C.2.2.2.2.2.2.2.1
  refine va_newa (atype := .int) (ty := .int) (a0 := (N, .inl (fun _ => 0))) C.1 C.2.1 (cx_w C w1) rfl C.2.2.2.2.2.1 p1 p2 hS C.2.2.2.2.2.2.1 (fun cA => rfl) hm hN hb (by rw [hR9]; exact h1) (by rw [hR9]; exact h2) hd (fun q cA H1 k1 q1 q2 q3 => ?_)
  have e := kt_of (tys := []) C.2.2.2.2.2.1 0 ⟨_, rfl⟩ k1
  cases e
  exact k q (p3 q _ _ q1 q2).1 H1 locs ls (p3 q _ _ q1 q2).2 q3 hl
theorem w_newal (C : CX K own cc nL R) {m : Int32} {N : Nat} (w1 : Cond.arrayClass .long ∈ lw_G) (hm : ¬ m < 0) (hN : m.toNatClampNeg = N) (hb : N * 8 ≤ 536870912) (h1 : n.1 + 1 ≤ R.cells) (h2 : n.2 + N ≤ R.slots) (hd : decode cc pc = .ok (.newarray .long, 2))
    (k : ∀ q : Nat, h q = none → WW K (n.1 + 1, n.2 + N) (pc + 2) lv (.ref q :: st) (hu h q (.inl (Kt K 1, N, .inr (.inl (fun _ => 0)))))) : WW K n pc lv (.int m :: st) h := by
  intro H locs ls hP hS hl
  obtain ⟨ws, p1, p2, p3⟩ := hP.celn
  have hR9 := C.2.2.2.2.2.2.2.1
  refine va_newa (atype := .long) (ty := .long) (a0 := (N, .inr (.inl (fun _ => 0)))) C.1 C.2.1 (cx_w C w1) rfl C.2.2.2.2.2.1 p1 p2 hS C.2.2.2.2.2.2.1 (fun cA => rfl) hm hN hb (by rw [hR9]; exact h1) (by rw [hR9]; exact h2) hd (fun q cA H1 k1 q1 q2 q3 => ?_)
  have e := kt_of (tys := []) C.2.2.2.2.2.1 1 ⟨_, rfl⟩ k1
  cases e
  exact k q (p3 q _ _ q1 q2).1 H1 locs ls (p3 q _ _ q1 q2).2 q3 hl
theorem w_newad (C : CX K own cc nL R) {m : Int32} {N : Nat} (w1 : Cond.arrayClass .double ∈ lw_G) (hm : ¬ m < 0) (hN : m.toNatClampNeg = N) (hb : N * 8 ≤ 536870912) (h1 : n.1 + 1 ≤ R.cells) (h2 : n.2 + N ≤ R.slots) (hd : decode cc pc = .ok (.newarray .double, 2))
    (k : ∀ q : Nat, h q = none → WW K (n.1 + 1, n.2 + N) (pc + 2) lv (.ref q :: st) (hu h q (.inl (Kt K 2, N, .inr (.inr (.inr (.inl (fun _ => 0)))))))) : WW K n pc lv (.int m :: st) h := by
  intro H locs ls hP hS hl
  obtain ⟨ws, p1, p2, p3⟩ := hP.celn
  have hR9 := C.2.2.2.2.2.2.2.1
  refine va_newa (atype := .double) (ty := .double) (a0 := (N, .inr (.inr (.inr (.inl (fun _ => 0)))))) C.1 C.2.1 (cx_w C w1) rfl C.2.2.2.2.2.1 p1 p2 hS C.2.2.2.2.2.2.1 (fun cA => rfl) hm hN hb (by rw [hR9]; exact h1) (by rw [hR9]; exact h2) hd (fun q cA H1 k1 q1 q2 q3 => ?_)
  have e := kt_of (tys := []) C.2.2.2.2.2.1 2 ⟨_, rfl⟩ k1
  cases e
  exact k q (p3 q _ _ q1 q2).1 H1 locs ls (p3 q _ _ q1 q2).2 q3 hl
theorem w_anewa (C : CX K own cc nL R) {m : Int32} {N idx : Nat} {E : String} (t0 : Nat) {cA : ClassId} (ht : (tysK (Kt K))[t0]? = some (cA, .object E)) (hE : va_AO E (Ks K)) (w1 : Cond.classLink own idx E ∈ lw_G) (hm : ¬ m < 0) (hN : m.toNatClampNeg = N) (hb : N * 4 ≤ 536870912) (h1 : n.1 + 1 ≤ R.cells) (h2 : n.2 + N ≤ R.slots) (hd : decode cc pc = .ok (.anewarray idx, 3))
    (k : ∀ q : Nat, h q = none → WW K (n.1 + 1, n.2 + N) (pc + 3) lv (.ref q :: st) (hu h q (.inl (cA, N, .inr (.inr (.inr (.inr (fun _ => none)))))))) : WW K n pc lv (.int m :: st) h := by
  intro H locs ls hP hS hl
  obtain ⟨ws, p1, p2, p3⟩ := hP.celn
  have hR9 := C.2.2.2.2.2.2.2.1
  refine va_newq C.1 C.2.1 C.2.2.2.1 (cx_w C w1) hE C.2.2.2.2.2.1 p1 p2 hS C.2.2.2.2.2.2.1 hm hN hb (by rw [hR9]; exact h1) (by rw [hR9]; exact h2) hd (fun q cB H1 k1 q1 q2 q3 => ?_)
  have e := kt_of (tys := []) C.2.2.2.2.2.1 t0 ⟨_, ht⟩ k1
  rw [ht] at e
  cases e
  exact k q (p3 q _ _ q1 q2).1 H1 locs ls (p3 q _ _ q1 q2).2 q3 hl
theorem w_castY (C : CX K own cc nL R) {a ci idx : Nat} {fs : List Value} {r : vw_C} {nm : String} (ha : h a = some (.inr (ci, fs))) (hcl : vwCl[ci]? = some r) (w1 : Cond.classLink own idx nm ∈ lw_G) (w2 : Cond.castable r.1 nm ∈ lw_tbl) (hd : decode cc pc = .ok (.checkcast idx, 3)) (k : WW K n (pc + 3) lv (.ref a :: st) h) : WW K n pc lv (.ref a :: st) h :=
  fun H locs ls hP hS hl => va_castY C.1 C.2.1 C.2.2.2.1 (cx_w C w1) ((cx_sw C).2.2.2.2.2.2.2.2.1 _ _ w2) (h_recv C hP ha hcl) hd (k H locs ls hP hS hl)
theorem w_castI (C : CX K own cc nL R) {a idx : Nat} {y : vp_A} (ha : h a = some (.inl (Kt K 0, y))) (w1 : Cond.classLink own idx "[I" ∈ lw_G) (hd : decode cc pc = .ok (.checkcast idx, 3)) (k : WW K n (pc + 3) lv (.ref a :: st) h) : WW K n pc lv (.ref a :: st) h := by
  intro H locs ls hP hS hl
  obtain ⟨ws, k9, e1, p1, p2, -⟩ := hP.cel1 ha
  exact va_castA C.1 C.2.1 C.2.2.2.1 (cx_w C w1) p1 k9 e1 (show (Ks K).vm.findClass "[I" = some (Kt K 0) from (C.2.2.2.2.2.1.2 0 _ rfl).2) hd (k H locs ls hP hS hl)
theorem w_acmp_eq (C : CX K own cc nL R) {rx ry : Option Nat} {off : Int} {tgt : Nat} (hd : decode cc pc = .ok (.if_acmp .eq off, 3)) (ht : (pc : Int) + off = (tgt : Int)) (kt : rx = ry → WW K n tgt lv st h) (kf : ¬ rx = ry → WW K n (pc + 3) lv st h) : WW K n pc lv (va_rf ry :: va_rf rx :: st) h :=
  fun H locs ls hP hS hl => lv_acmp_eq C.1 C.2.1 hd ht (fun z => kt z H locs ls hP hS hl) (fun z => kf z H locs ls hP hS hl)
theorem w_acmp_ne (C : CX K own cc nL R) {rx ry : Option Nat} {off : Int} {tgt : Nat} (hd : decode cc pc = .ok (.if_acmp .ne off, 3)) (ht : (pc : Int) + off = (tgt : Int)) (kt : ¬ rx = ry → WW K n tgt lv st h) (kf : rx = ry → WW K n (pc + 3) lv st h) : WW K n pc lv (va_rf ry :: va_rf rx :: st) h :=
  fun H locs ls hP hS hl => lv_acmp_ne C.1 C.2.1 hd ht (fun z => kt z H locs ls hP hS hl) (fun z => kf z H locs ls hP hS hl)
theorem w_d2lraw (C : CX K own cc nL R) {b : UInt64} {idx : Nat} (w1 : Cond.methodLink own idx ⟨"java/lang/Double", "doubleToRawLongBits", "(D)J"⟩ ∈ lw_G) (w2 : Cond.native ⟨"java/lang/Double", "doubleToRawLongBits", "(D)J"⟩ ∈ lw_G) (w3 : Cond.static ⟨"java/lang/Double", "doubleToRawLongBits", "(D)J"⟩ ∈ lw_G) (w4 : Cond.initialized "java/lang/Double" ∈ lw_G) (hnl : lv.length = nL) (hR : Nat.ble 1 R.frames = true) (hR2 : Nat.ble ((st.map fun v => v.category).sum + 15) R.locals = true) (hd : decode cc pc = .ok (.invokestatic idx, 3)) (k : WW K n (pc + 3) lv (.long b.toInt64 :: st) h) : WW K n pc lv (.double b :: st) h := by
  intro H locs ls hP hS hl
  have hR9 := C.2.2.2.2.2.2.2.1
  exact vn_d2l C.1 C.2.1 (C.2.2.1.trans (hl.1.trans hnl).symm) C.2.2.2.1 (cx_w C w1) (cx_w C w2) (cx_w C w3) (cx_w C w4) (by rw [hR9]; exact Nat.ble_eq.mp hR) (by rw [hR9]; exact Nat.ble_eq.mp hR2) hd (k H locs ls hP hS hl)
theorem w_l2draw (C : CX K own cc nL R) {b : Int64} {idx : Nat} (w1 : Cond.methodLink own idx ⟨"java/lang/Double", "longBitsToDouble", "(J)D"⟩ ∈ lw_G) (w2 : Cond.native ⟨"java/lang/Double", "longBitsToDouble", "(J)D"⟩ ∈ lw_G) (w3 : Cond.static ⟨"java/lang/Double", "longBitsToDouble", "(J)D"⟩ ∈ lw_G) (w4 : Cond.initialized "java/lang/Double" ∈ lw_G) (hv : vn_snl2d b = false) (hnl : lv.length = nL) (hR : Nat.ble 1 R.frames = true) (hR2 : Nat.ble ((st.map fun v => v.category).sum + 15) R.locals = true) (hd : decode cc pc = .ok (.invokestatic idx, 3)) (k : WW K n (pc + 3) lv (.double b.toUInt64 :: st) h) : WW K n pc lv (.long b :: st) h := by
  intro H locs ls hP hS hl
  have hR9 := C.2.2.2.2.2.2.2.1
  exact vn_l2d C.1 C.2.1 (C.2.2.1.trans (hl.1.trans hnl).symm) C.2.2.2.1 (cx_w C w1) (cx_w C w2) (cx_w C w3) (cx_w C w4) hv (by rw [hR9]; exact Nat.ble_eq.mp hR) (by rw [hR9]; exact Nat.ble_eq.mp hR2) hd (k H locs ls hP hS hl)
theorem w_f2iraw (C : CX K own cc nL R) {b : UInt32} {idx : Nat} (w1 : Cond.methodLink own idx ⟨"java/lang/Float", "floatToRawIntBits", "(F)I"⟩ ∈ lw_G) (w2 : Cond.native ⟨"java/lang/Float", "floatToRawIntBits", "(F)I"⟩ ∈ lw_G) (w3 : Cond.static ⟨"java/lang/Float", "floatToRawIntBits", "(F)I"⟩ ∈ lw_G) (w4 : Cond.initialized "java/lang/Float" ∈ lw_G) (hnl : lv.length = nL) (hR : Nat.ble 1 R.frames = true) (hR2 : Nat.ble ((st.map fun v => v.category).sum + 15) R.locals = true) (hd : decode cc pc = .ok (.invokestatic idx, 3)) (k : WW K n (pc + 3) lv (.int b.toInt32 :: st) h) : WW K n pc lv (.float b :: st) h := by
  intro H locs ls hP hS hl
  have hR9 := C.2.2.2.2.2.2.2.1
  exact vn_f2i C.1 C.2.1 (C.2.2.1.trans (hl.1.trans hnl).symm) C.2.2.2.1 (cx_w C w1) (cx_w C w2) (cx_w C w3) (cx_w C w4) (by rw [hR9]; exact Nat.ble_eq.mp hR) (by rw [hR9]; exact Nat.ble_eq.mp hR2) hd (k H locs ls hP hS hl)
/-- new E("text") thrown, which leaves the method -/
def okT (own : String) (ic : Nat) (cls : String) : Bool := (vx_atS own ic cls ["java/lang/RuntimeException", "java/lang/Exception"]).all (fun w => decide (w ∈ lw_tbl) && (goodWord w || match w with | .castable _ _ => true | _ => false))
theorem w_throw {h0 : HM} {post9 : Option Value → HM → Prop} {px9 : String → HM → Prop} {rm : Room} (C : CX K own cc nL R) (X : MXX K rm h0 post9 px9) {cls text : String} {ik is ic : Nat} (hcls : Bundle.fit cls = true)
    (w1 : Cond.classLink own ik cls ∈ lw_G) (w2 : Cond.initialized cls ∈ lw_G) (w3 : Cond.stringRef own is text ∈ lw_tbl) (hat : ∀ w ∈ vx_atS own ic cls ["java/lang/RuntimeException", "java/lang/Exception"], w ∈ lw_G ∨ ∃ A B, w = .castable A B ∧ w ∈ lw_tbl) (hgood : ∀ w ∈ Cond.classLink own ik cls :: Cond.initialized cls :: vx_atS own ic cls ["java/lang/RuntimeException", "java/lang/Exception"], vx_ot w = true)
    (hnl : lv.length = nL) (hR : Nat.ble 6 R.frames = true) (hR2 : Nat.ble ((st.map fun v => v.category).sum + 82) R.locals = true) (h1 : n.1 + 1 ≤ R.cells) (h2 : n.2 + 6 ≤ R.slots) (h3 : n.1 + 1 ≤ rm.cells) (h4 : n.2 + 6 ≤ rm.slots) (hp : px9 cls h)
    (d0 : decode cc pc = .ok (.new ik, 3)) (d3 : decode cc (pc + 3) = .ok (.dup, 1)) (d4 : decode cc (pc + 4) = .ok (.ldc is, 2)) (d6 : decode cc (pc + 6) = .ok (.invokespecial ic, 3)) (d9 : decode cc (pc + 9) = .ok (.athrow, 1)) : WW K n pc lv st h := by
  intro H locs ls hP hS hl
  have hR9 := C.2.2.2.2.2.2.2.1
  obtain ⟨hA, hlk, ht, hQ⟩ := X
  have sw := cx_sw C
  obtain ⟨sa, hsa⟩ := sw.2.2.2.2.2.2.2.2.2.2.2.1 _ _ _ w3
  rw [hQ]
  refine vx_throwS C.1 C.2.1 C.2.2.2.2.2.2.2.2.2 C.2.2.2.1 hcls (by decide) (cx_w C w1) (cx_w C w2) hsa (fun w hw => ?_) hgood sw.2.2.2.2.2.2.1 sw.2.2.2.2.2.2.2.1 hS (hl.1.trans (hnl.trans C.2.2.1.symm)) d0 d3 d4 d6 d9 (fun z hz => (ht z hz).elim) (by rw [hR9]; exact Nat.lt_of_lt_of_le (by decide) (Nat.ble_eq.mp hR)) (by rw [hR9]; exact Nat.ble_eq.mp hR2) (by rw [hR9]; exact h1) (by rw [hR9]; exact h2) hlk ?_ (fun z hz => by rw [← hA]; exact hS.2.2 z hz) h3 h4
  · rcases hat w hw with hw | ⟨A, B, rfl, hw⟩
    · exact cx_w C hw
    · exact va_Nw.use rfl (sw.2.2.2.2.2.2.2.2.1 A B hw)
  · intro t _ hz hk
    have key : PW (KD K) (KA K) h t.heap := by
      obtain ⟨L, f, p1, p2, p3⟩ := hP.weaken (B := fun q => (h q).isSome ∧ KA K q) (fun a e ha => ⟨by rw [ha]; rfl, hP.inA ha⟩)
      refine ⟨L, f, p1, va_P_mem.mpr (fun q hq => ?_), p3.weaken (fun _ _ _ z => z.2)⟩
      have h8 := va_P_mem.mp p2 q hq
      exact h8.kept (hk q.1 h8.lt)
    rw [hA] at key hS
    exact ⟨⟨h, hp, key⟩, Nat.le_trans hS.1 hz, fun q hq hn => by rw [hk q (Nat.lt_of_lt_of_le hq hS.1)]; exact hS.2.1 q hq hn⟩
variable {y : MethodName} {cc' : ByteArray} {nL' idx : Nat} {ret' : Option FieldType} {rm : Room} {As : List Value} {post : Option Value → HM → Prop} {px : String → HM → Prop}
theorem w_SN (C : CX K own cc nL R) {host : String} (hM : CT (Kl K) (KD K) (Kt K) y cc' nL' ret' rm As h post) (w1 : Cond.methodLinkNest own idx y host ∈ lw_tbl) (w2 : Cond.static y ∈ lw_G) (w3 : Cond.initialized y.cls ∈ lw_G) (w4 : Cond.code y cc' nL' ret' ∈ lw_G)
    (hy : okY y As.length = true) (hR : okR rm R nL' = true) (hc : okS st = true) (hn : n.1 + rm.cells ≤ R.cells ∧ n.2 + rm.slots ≤ R.slots) (hnl : lv.length = nL) (hst : st0 = As.reverse ++ st) (hd : decode cc pc = .ok (.invokestatic idx, 3))
    (kk : ∀ (r : Option Value) (h' : HM), post r h' → WW K (n.1 + rm.cells, n.2 + rm.slots) (pc + 3) lv (r.toList ++ st) h') : WW K n pc lv st0 h := by
  intro H locs ls hP hS hl
  have hR9 := C.2.2.2.2.2.2.2.1
  refine w_run C hP hS hl (va_runSN (cx_fix C) (hM H.size) ⟨va_cnB As.length C.2.2.2.2.1 (goodIn_ws w4) rfl rfl rfl ((cx_sw C).2.2.2.2.2.2.2.2.2.2.1 _ _ _ _ w1) (cx_w C w3) (okY_spec hy) (by rw [hR9]; exact okR_spec hR), cx_w C w2, trivial⟩ ⟨PcH_blind _ _ _ _ _, cx_pre C hP hS As⟩ rfl rfl (hl.1.trans hnl) hst (lv_room (by simpa [okS] using hc)) hd (by rw [hR9]; exact hn)) kk
theorem w_IN (C : CX K own cc nL R) {b : Nat} {host : String} (hM : CT (Kl K) (KD K) (Kt K) y cc' nL' none rm (.ref b :: As) h post) (hin : y.name = "<init>") (w1 : Cond.methodLinkNest own idx y host ∈ lw_tbl) (w2 : Cond.instanceMethod y ∈ lw_G) (w3 : Cond.initialized y.cls ∈ lw_G) (w4 : Cond.code y cc' nL' none ∈ lw_G)
    (hy : okY y As.length = true) (hR : okR rm R nL' = true) (hc : okS st = true) (hn : n.1 + rm.cells ≤ R.cells ∧ n.2 + rm.slots ≤ R.slots) (hnl : lv.length = nL) (hst : st0 = As.reverse ++ .ref b :: st) (hd : decode cc pc = .ok (.invokespecial idx, 3))
    (kk : ∀ (r : Option Value) (h' : HM), post r h' → WW K (n.1 + rm.cells, n.2 + rm.slots) (pc + 3) lv (r.toList ++ st) h') : WW K n pc lv st0 h := by
  intro H locs ls hP hS hl
  have hR9 := C.2.2.2.2.2.2.2.1
  refine w_run C hP hS hl (va_runIN (cx_fix C) (hM H.size) ⟨va_cnB As.length C.2.2.2.2.1 (goodIn_ws w4) rfl rfl rfl ((cx_sw C).2.2.2.2.2.2.2.2.2.2.1 _ _ _ _ w1) (cx_w C w3) (okY_spec hy) (by rw [hR9]; exact okR_spec hR), hin, cx_w C w2⟩ ⟨PcH_blind _ _ _ _ _, cx_pre C hP hS (.ref b :: As)⟩ rfl rfl (hl.1.trans hnl) hst (lv_room (by simpa [okS] using hc)) hd (by rw [hR9]; exact hn)) kk
theorem w_F (C : CX K own cc nL R) {b ci cnt : Nat} {fs : List Value} {r : vw_C} {z : MethodName} (hM : CT (Kl K) (KD K) (Kt K) y cc' nL' ret' rm (.ref b :: As) h post) (hb : h b = some (.inr (ci, fs))) (hcl : vwCl[ci]? = some r) (hF : va_Fw r.1 z y (Ks K)) (w1 : Cond.methodLink own idx z ∈ lw_G) (w2 : Cond.instanceMethod y ∈ lw_G) (w3 : Cond.initialized y.cls ∈ lw_G) (w4 : Cond.code y cc' nL' ret' ∈ lw_G) (w5 : Cond.selects r.1 z y ∈ lw_G)
    (hy : okY z As.length = true) (hR : okR rm R nL' = true) (hc : okS st = true) (hn : n.1 + rm.cells ≤ R.cells ∧ n.2 + rm.slots ≤ R.slots) (hnl : lv.length = nL) (hst : st0 = As.reverse ++ .ref b :: st) (hd : decode cc pc = .ok (.invokeinterface idx cnt, 5))
    (kk : ∀ (r : Option Value) (h' : HM), post r h' → WW K (n.1 + rm.cells, n.2 + rm.slots) (pc + 5) lv (r.toList ++ st) h') : WW K n pc lv st0 h := by
  intro H locs ls hP hS hl
  have hR9 := C.2.2.2.2.2.2.2.1
  have hG : GoodIn lw_G (va_wsF own idx r.1 z y (lw_ws y cc' nL' ret')) := fun w hw => by
    rcases List.mem_append.mp hw with hw | hw
    · simp only [List.mem_cons, List.not_mem_nil, or_false] at hw
      rcases hw with e | e | e | e <;> rw [e]
      · exact ⟨w1, good_of_word (G_good w1)⟩
      · exact ⟨w5, good_of_word (G_good w5)⟩
      · exact ⟨w2, good_of_word (G_good w2)⟩
      · exact ⟨w3, good_of_word (G_good w3)⟩
    · exact goodIn_ws w4 w hw
  refine w_run5 C hP hS hl (va_runF (C.2.2.2.2.2.1.1 ci r hcl).2 (cx_fix C) (hM H.size) (va_cwF As.length C.2.2.2.2.1 hG rfl rfl rfl hF (okY_spec hy) (by rw [hR9]; exact okR_spec hR)) ⟨PcH_blind _ _ _ _ _, h_recv C hP hb hcl, cx_pre C hP hS (.ref b :: As)⟩ rfl rfl (hl.1.trans hnl) hst (lv_room (by simpa [okS] using hc)) hd (by rw [hR9]; exact hn)) kk
end WWM
end
