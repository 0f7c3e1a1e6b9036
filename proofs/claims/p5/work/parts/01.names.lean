-- ===== PART A: goes FIRST, ahead of the names: the tables' words, and 'selects' of the private methods out of them =====
/-- a private method of a class that the tables say can be made, by its rows of tables_1 -/
def lw_okq (q : MethodName × Nat) : Prop := (q.1.cls ≠ "java/lang/invoke/MethodHandle" ∧ q.1.cls ≠ "java/lang/invoke/VarHandle") ∧ Cond.instantiable q.1.cls q.2 ∈ tables_1 ∧ Cond.privateMethod q.1 ∈ tables_1 ∧ Cond.instanceMethod q.1 ∈ tables_1
theorem lw_p0 : lw_okq (⟨"ReadBound", "isOne", "(II)Z"⟩, 19) := ⟨⟨by decide +kernel, by decide +kernel⟩, List.mem_of_getElem? (i := 25) (by decide +kernel), List.mem_of_getElem? (i := 593) (by decide +kernel), List.mem_of_getElem? (i := 594) (by decide +kernel)⟩
theorem lw_p1 : lw_okq (⟨"ReadBound", "attempt", "(III)I"⟩, 19) := ⟨⟨by decide +kernel, by decide +kernel⟩, List.mem_of_getElem? (i := 25) (by decide +kernel), List.mem_of_getElem? (i := 665) (by decide +kernel), List.mem_of_getElem? (i := 666) (by decide +kernel)⟩
theorem lw_p2 : lw_okq (⟨"ReadBound", "isManAndLaw", "(II)Z"⟩, 19) := ⟨⟨by decide +kernel, by decide +kernel⟩, List.mem_of_getElem? (i := 25) (by decide +kernel), List.mem_of_getElem? (i := 759) (by decide +kernel), List.mem_of_getElem? (i := 760) (by decide +kernel)⟩
theorem lw_p3 : lw_okq (⟨"ReadBound", "areBits", "(II)Z"⟩, 19) := ⟨⟨by decide +kernel, by decide +kernel⟩, List.mem_of_getElem? (i := 25) (by decide +kernel), List.mem_of_getElem? (i := 807) (by decide +kernel), List.mem_of_getElem? (i := 808) (by decide +kernel)⟩
theorem lw_p4 : lw_okq (⟨"ReadBound", "menWhoHaveAll", "(II)I"⟩, 19) := ⟨⟨by decide +kernel, by decide +kernel⟩, List.mem_of_getElem? (i := 25) (by decide +kernel), List.mem_of_getElem? (i := 856) (by decide +kernel), List.mem_of_getElem? (i := 857) (by decide +kernel)⟩
theorem lw_p5 : lw_okq (⟨"ReadBound", "judge", "(LReadBound$Life;)I"⟩, 19) := ⟨⟨by decide +kernel, by decide +kernel⟩, List.mem_of_getElem? (i := 25) (by decide +kernel), List.mem_of_getElem? (i := 950) (by decide +kernel), List.mem_of_getElem? (i := 951) (by decide +kernel)⟩
theorem lw_p6 : lw_okq (⟨"ReadBound", "imageIn", "(I)LReadBound$Image;"⟩, 19) := ⟨⟨by decide +kernel, by decide +kernel⟩, List.mem_of_getElem? (i := 25) (by decide +kernel), List.mem_of_getElem? (i := 1032) (by decide +kernel), List.mem_of_getElem? (i := 1033) (by decide +kernel)⟩
theorem lw_p7 : lw_okq (⟨"java/lang/Throwable", "fillInStackTrace", "(I)Ljava/lang/Throwable;"⟩, 6) := ⟨⟨by decide +kernel, by decide +kernel⟩, List.mem_of_getElem? (i := 1096) (by decide +kernel), List.mem_of_getElem? (i := 1094) (by decide +kernel), List.mem_of_getElem? (i := 1095) (by decide +kernel)⟩
theorem lw_p8 : lw_okq (⟨"ReadBoundModel", "four", "(I)V"⟩, 45) := ⟨⟨by decide +kernel, by decide +kernel⟩, List.mem_of_getElem? (i := 1127) (by decide +kernel), List.mem_of_getElem? (i := 1125) (by decide +kernel), List.mem_of_getElem? (i := 1126) (by decide +kernel)⟩
theorem lw_p9 : lw_okq (⟨"ReadBoundModel", "taken", "(I)V"⟩, 45) := ⟨⟨by decide +kernel, by decide +kernel⟩, List.mem_of_getElem? (i := 1127) (by decide +kernel), List.mem_of_getElem? (i := 1309) (by decide +kernel), List.mem_of_getElem? (i := 1310) (by decide +kernel)⟩
theorem lw_p10 : lw_okq (⟨"ReadBoundModel", "skip", "()V"⟩, 45) := ⟨⟨by decide +kernel, by decide +kernel⟩, List.mem_of_getElem? (i := 1127) (by decide +kernel), List.mem_of_getElem? (i := 1313) (by decide +kernel), List.mem_of_getElem? (i := 1314) (by decide +kernel)⟩
theorem lw_p11 : lw_okq (⟨"ReadBoundModel", "peek", "()I"⟩, 45) := ⟨⟨by decide +kernel, by decide +kernel⟩, List.mem_of_getElem? (i := 1127) (by decide +kernel), List.mem_of_getElem? (i := 1317) (by decide +kernel), List.mem_of_getElem? (i := 1318) (by decide +kernel)⟩
theorem lw_p12 : lw_okq (⟨"ReadBoundModel", "line", "()Z"⟩, 45) := ⟨⟨by decide +kernel, by decide +kernel⟩, List.mem_of_getElem? (i := 1127) (by decide +kernel), List.mem_of_getElem? (i := 1327) (by decide +kernel), List.mem_of_getElem? (i := 1328) (by decide +kernel)⟩
theorem lw_p13 : lw_okq (⟨"ReadBoundModel", "isWord", "(J)Z"⟩, 45) := ⟨⟨by decide +kernel, by decide +kernel⟩, List.mem_of_getElem? (i := 1127) (by decide +kernel), List.mem_of_getElem? (i := 1331) (by decide +kernel), List.mem_of_getElem? (i := 1332) (by decide +kernel)⟩
theorem lw_p14 : lw_okq (⟨"ReadBoundModel", "bad", "(I)Z"⟩, 45) := ⟨⟨by decide +kernel, by decide +kernel⟩, List.mem_of_getElem? (i := 1127) (by decide +kernel), List.mem_of_getElem? (i := 1335) (by decide +kernel), List.mem_of_getElem? (i := 1336) (by decide +kernel)⟩
theorem lw_p15 : lw_okq (⟨"ReadBoundModel", "fresh", "(I)Z"⟩, 45) := ⟨⟨by decide +kernel, by decide +kernel⟩, List.mem_of_getElem? (i := 1127) (by decide +kernel), List.mem_of_getElem? (i := 1339) (by decide +kernel), List.mem_of_getElem? (i := 1340) (by decide +kernel)⟩
def lw_privs_1 : List (MethodName × Nat) := [(⟨"ReadBound", "isOne", "(II)Z"⟩, 19), (⟨"ReadBound", "attempt", "(III)I"⟩, 19), (⟨"ReadBound", "isManAndLaw", "(II)Z"⟩, 19), (⟨"ReadBound", "areBits", "(II)Z"⟩, 19), (⟨"ReadBound", "menWhoHaveAll", "(II)I"⟩, 19), (⟨"ReadBound", "judge", "(LReadBound$Life;)I"⟩, 19), (⟨"ReadBound", "imageIn", "(I)LReadBound$Image;"⟩, 19), (⟨"java/lang/Throwable", "fillInStackTrace", "(I)Ljava/lang/Throwable;"⟩, 6), (⟨"ReadBoundModel", "four", "(I)V"⟩, 45), (⟨"ReadBoundModel", "taken", "(I)V"⟩, 45), (⟨"ReadBoundModel", "skip", "()V"⟩, 45), (⟨"ReadBoundModel", "peek", "()I"⟩, 45), (⟨"ReadBoundModel", "line", "()Z"⟩, 45), (⟨"ReadBoundModel", "isWord", "(J)Z"⟩, 45), (⟨"ReadBoundModel", "bad", "(I)Z"⟩, 45), (⟨"ReadBoundModel", "fresh", "(I)Z"⟩, 45)]
theorem lw_r1 : ∀ q ∈ lw_privs_1, lw_okq q := List.forall_mem_cons.mpr ⟨lw_p0, List.forall_mem_cons.mpr ⟨lw_p1, List.forall_mem_cons.mpr ⟨lw_p2, List.forall_mem_cons.mpr ⟨lw_p3, List.forall_mem_cons.mpr ⟨lw_p4, List.forall_mem_cons.mpr ⟨lw_p5, List.forall_mem_cons.mpr ⟨lw_p6, List.forall_mem_cons.mpr ⟨lw_p7, List.forall_mem_cons.mpr ⟨lw_p8, List.forall_mem_cons.mpr ⟨lw_p9, List.forall_mem_cons.mpr ⟨lw_p10, List.forall_mem_cons.mpr ⟨lw_p11, List.forall_mem_cons.mpr ⟨lw_p12, List.forall_mem_cons.mpr ⟨lw_p13, List.forall_mem_cons.mpr ⟨lw_p14, List.forall_mem_cons.mpr ⟨lw_p15, fun _ h => absurd h List.not_mem_nil⟩⟩⟩⟩⟩⟩⟩⟩⟩⟩⟩⟩⟩⟩⟩⟩
theorem lw_p16 : lw_okq (⟨"ReadBoundModel", "isName", "()Z"⟩, 45) := ⟨⟨by decide +kernel, by decide +kernel⟩, List.mem_of_getElem? (i := 1127) (by decide +kernel), List.mem_of_getElem? (i := 1343) (by decide +kernel), List.mem_of_getElem? (i := 1344) (by decide +kernel)⟩
theorem lw_p17 : lw_okq (⟨"ReadBoundModel", "find", "(II)I"⟩, 45) := ⟨⟨by decide +kernel, by decide +kernel⟩, List.mem_of_getElem? (i := 1127) (by decide +kernel), List.mem_of_getElem? (i := 1347) (by decide +kernel), List.mem_of_getElem? (i := 1348) (by decide +kernel)⟩
theorem lw_p18 : lw_okq (⟨"ReadBoundModel", "readRoad", "()Z"⟩, 45) := ⟨⟨by decide +kernel, by decide +kernel⟩, List.mem_of_getElem? (i := 1127) (by decide +kernel), List.mem_of_getElem? (i := 1351) (by decide +kernel), List.mem_of_getElem? (i := 1352) (by decide +kernel)⟩
theorem lw_p19 : lw_okq (⟨"ReadBoundModel", "takesName", "(II)Z"⟩, 45) := ⟨⟨by decide +kernel, by decide +kernel⟩, List.mem_of_getElem? (i := 1127) (by decide +kernel), List.mem_of_getElem? (i := 1355) (by decide +kernel), List.mem_of_getElem? (i := 1356) (by decide +kernel)⟩
theorem lw_p20 : lw_okq (⟨"ReadBoundModel", "looksAt", "(II)Z"⟩, 45) := ⟨⟨by decide +kernel, by decide +kernel⟩, List.mem_of_getElem? (i := 1127) (by decide +kernel), List.mem_of_getElem? (i := 1359) (by decide +kernel), List.mem_of_getElem? (i := 1360) (by decide +kernel)⟩
theorem lw_p21 : lw_okq (⟨"ReadBoundModel", "readLaw", "(Z)Z"⟩, 45) := ⟨⟨by decide +kernel, by decide +kernel⟩, List.mem_of_getElem? (i := 1127) (by decide +kernel), List.mem_of_getElem? (i := 1366) (by decide +kernel), List.mem_of_getElem? (i := 1367) (by decide +kernel)⟩
theorem lw_p22 : lw_okq (⟨"ReadBoundModel", "puts", "(III)Z"⟩, 45) := ⟨⟨by decide +kernel, by decide +kernel⟩, List.mem_of_getElem? (i := 1127) (by decide +kernel), List.mem_of_getElem? (i := 1370) (by decide +kernel), List.mem_of_getElem? (i := 1371) (by decide +kernel)⟩
theorem lw_p23 : lw_okq (⟨"ReadBoundModel", "takes", "(II)Z"⟩, 45) := ⟨⟨by decide +kernel, by decide +kernel⟩, List.mem_of_getElem? (i := 1127) (by decide +kernel), List.mem_of_getElem? (i := 1374) (by decide +kernel), List.mem_of_getElem? (i := 1375) (by decide +kernel)⟩
theorem lw_p24 : lw_okq (⟨"ReadBoundModel", "isSign", "(I)Z"⟩, 45) := ⟨⟨by decide +kernel, by decide +kernel⟩, List.mem_of_getElem? (i := 1127) (by decide +kernel), List.mem_of_getElem? (i := 1381) (by decide +kernel), List.mem_of_getElem? (i := 1382) (by decide +kernel)⟩
theorem lw_p25 : lw_okq (⟨"ReadBoundModel", "readRound", "()Z"⟩, 45) := ⟨⟨by decide +kernel, by decide +kernel⟩, List.mem_of_getElem? (i := 1127) (by decide +kernel), List.mem_of_getElem? (i := 1385) (by decide +kernel), List.mem_of_getElem? (i := 1386) (by decide +kernel)⟩
theorem lw_p26 : lw_okq (⟨"ReadBoundModel", "sign", "(I)Z"⟩, 45) := ⟨⟨by decide +kernel, by decide +kernel⟩, List.mem_of_getElem? (i := 1127) (by decide +kernel), List.mem_of_getElem? (i := 1389) (by decide +kernel), List.mem_of_getElem? (i := 1390) (by decide +kernel)⟩
theorem lw_p27 : lw_okq (⟨"ReadBoundModel", "readsAll", "(I)V"⟩, 45) := ⟨⟨by decide +kernel, by decide +kernel⟩, List.mem_of_getElem? (i := 1127) (by decide +kernel), List.mem_of_getElem? (i := 1393) (by decide +kernel), List.mem_of_getElem? (i := 1394) (by decide +kernel)⟩
theorem lw_p28 : lw_okq (⟨"ReadBoundModel", "reads", "(II)V"⟩, 45) := ⟨⟨by decide +kernel, by decide +kernel⟩, List.mem_of_getElem? (i := 1127) (by decide +kernel), List.mem_of_getElem? (i := 1397) (by decide +kernel), List.mem_of_getElem? (i := 1398) (by decide +kernel)⟩
theorem lw_p29 : lw_okq (⟨"ReadBoundModel", "has", "(III)V"⟩, 45) := ⟨⟨by decide +kernel, by decide +kernel⟩, List.mem_of_getElem? (i := 1127) (by decide +kernel), List.mem_of_getElem? (i := 1407) (by decide +kernel), List.mem_of_getElem? (i := 1408) (by decide +kernel)⟩
theorem lw_p30 : lw_okq (⟨"ReadBoundModel", "isLaw", "(I)Z"⟩, 45) := ⟨⟨by decide +kernel, by decide +kernel⟩, List.mem_of_getElem? (i := 1127) (by decide +kernel), List.mem_of_getElem? (i := 1422) (by decide +kernel), List.mem_of_getElem? (i := 1423) (by decide +kernel)⟩
theorem lw_p31 : lw_okq (⟨"ReadBoundModel", "isMan", "(I)Z"⟩, 45) := ⟨⟨by decide +kernel, by decide +kernel⟩, List.mem_of_getElem? (i := 1127) (by decide +kernel), List.mem_of_getElem? (i := 1430) (by decide +kernel), List.mem_of_getElem? (i := 1431) (by decide +kernel)⟩
def lw_privs_2 : List (MethodName × Nat) := [(⟨"ReadBoundModel", "isName", "()Z"⟩, 45), (⟨"ReadBoundModel", "find", "(II)I"⟩, 45), (⟨"ReadBoundModel", "readRoad", "()Z"⟩, 45), (⟨"ReadBoundModel", "takesName", "(II)Z"⟩, 45), (⟨"ReadBoundModel", "looksAt", "(II)Z"⟩, 45), (⟨"ReadBoundModel", "readLaw", "(Z)Z"⟩, 45), (⟨"ReadBoundModel", "puts", "(III)Z"⟩, 45), (⟨"ReadBoundModel", "takes", "(II)Z"⟩, 45), (⟨"ReadBoundModel", "isSign", "(I)Z"⟩, 45), (⟨"ReadBoundModel", "readRound", "()Z"⟩, 45), (⟨"ReadBoundModel", "sign", "(I)Z"⟩, 45), (⟨"ReadBoundModel", "readsAll", "(I)V"⟩, 45), (⟨"ReadBoundModel", "reads", "(II)V"⟩, 45), (⟨"ReadBoundModel", "has", "(III)V"⟩, 45), (⟨"ReadBoundModel", "isLaw", "(I)Z"⟩, 45), (⟨"ReadBoundModel", "isMan", "(I)Z"⟩, 45)]
theorem lw_r2 : ∀ q ∈ lw_privs_2, lw_okq q := List.forall_mem_cons.mpr ⟨lw_p16, List.forall_mem_cons.mpr ⟨lw_p17, List.forall_mem_cons.mpr ⟨lw_p18, List.forall_mem_cons.mpr ⟨lw_p19, List.forall_mem_cons.mpr ⟨lw_p20, List.forall_mem_cons.mpr ⟨lw_p21, List.forall_mem_cons.mpr ⟨lw_p22, List.forall_mem_cons.mpr ⟨lw_p23, List.forall_mem_cons.mpr ⟨lw_p24, List.forall_mem_cons.mpr ⟨lw_p25, List.forall_mem_cons.mpr ⟨lw_p26, List.forall_mem_cons.mpr ⟨lw_p27, List.forall_mem_cons.mpr ⟨lw_p28, List.forall_mem_cons.mpr ⟨lw_p29, List.forall_mem_cons.mpr ⟨lw_p30, List.forall_mem_cons.mpr ⟨lw_p31, fun _ h => absurd h List.not_mem_nil⟩⟩⟩⟩⟩⟩⟩⟩⟩⟩⟩⟩⟩⟩⟩⟩
theorem lw_p32 : lw_okq (⟨"ReadBoundModel", "throwsIf", "(Z)Z"⟩, 45) := ⟨⟨by decide +kernel, by decide +kernel⟩, List.mem_of_getElem? (i := 1127) (by decide +kernel), List.mem_of_getElem? (i := 1434) (by decide +kernel), List.mem_of_getElem? (i := 1435) (by decide +kernel)⟩
theorem lw_p33 : lw_okq (⟨"ReadBoundModel", "isPlace", "(I)Z"⟩, 45) := ⟨⟨by decide +kernel, by decide +kernel⟩, List.mem_of_getElem? (i := 1127) (by decide +kernel), List.mem_of_getElem? (i := 1442) (by decide +kernel), List.mem_of_getElem? (i := 1443) (by decide +kernel)⟩
theorem lw_p34 : lw_okq (⟨"ReadBoundModel", "freeMen", "()I"⟩, 45) := ⟨⟨by decide +kernel, by decide +kernel⟩, List.mem_of_getElem? (i := 1127) (by decide +kernel), List.mem_of_getElem? (i := 1453) (by decide +kernel), List.mem_of_getElem? (i := 1454) (by decide +kernel)⟩
theorem lw_p35 : lw_okq (⟨"ReadBoundModel", "bindsOf", "(I)I"⟩, 45) := ⟨⟨by decide +kernel, by decide +kernel⟩, List.mem_of_getElem? (i := 1127) (by decide +kernel), List.mem_of_getElem? (i := 1457) (by decide +kernel), List.mem_of_getElem? (i := 1458) (by decide +kernel)⟩
theorem lw_p36 : lw_okq (⟨"ReadBoundModel", "doesBind", "(II)Z"⟩, 45) := ⟨⟨by decide +kernel, by decide +kernel⟩, List.mem_of_getElem? (i := 1127) (by decide +kernel), List.mem_of_getElem? (i := 1461) (by decide +kernel), List.mem_of_getElem? (i := 1462) (by decide +kernel)⟩
theorem lw_p37 : lw_okq (⟨"ReadBoundModel", "stateOf", "(II)I"⟩, 45) := ⟨⟨by decide +kernel, by decide +kernel⟩, List.mem_of_getElem? (i := 1127) (by decide +kernel), List.mem_of_getElem? (i := 1465) (by decide +kernel), List.mem_of_getElem? (i := 1466) (by decide +kernel)⟩
theorem lw_p38 : lw_okq (⟨"ReadBoundModel", "isRepealed", "(II)Z"⟩, 45) := ⟨⟨by decide +kernel, by decide +kernel⟩, List.mem_of_getElem? (i := 1127) (by decide +kernel), List.mem_of_getElem? (i := 1469) (by decide +kernel), List.mem_of_getElem? (i := 1470) (by decide +kernel)⟩
theorem lw_p39 : lw_okq (⟨"ReadBoundModel", "whyGo", "(II)I"⟩, 45) := ⟨⟨by decide +kernel, by decide +kernel⟩, List.mem_of_getElem? (i := 1127) (by decide +kernel), List.mem_of_getElem? (i := 1477) (by decide +kernel), List.mem_of_getElem? (i := 1478) (by decide +kernel)⟩
theorem lw_p40 : lw_okq (⟨"ReadBoundModel", "keep", "()V"⟩, 45) := ⟨⟨by decide +kernel, by decide +kernel⟩, List.mem_of_getElem? (i := 1127) (by decide +kernel), List.mem_of_getElem? (i := 1481) (by decide +kernel), List.mem_of_getElem? (i := 1482) (by decide +kernel)⟩
theorem lw_p41 : lw_okq (⟨"ReadBoundModel", "goes", "(II)V"⟩, 45) := ⟨⟨by decide +kernel, by decide +kernel⟩, List.mem_of_getElem? (i := 1127) (by decide +kernel), List.mem_of_getElem? (i := 1485) (by decide +kernel), List.mem_of_getElem? (i := 1486) (by decide +kernel)⟩
theorem lw_p42 : lw_okq (⟨"ReadBoundModel", "comes", "(II)V"⟩, 45) := ⟨⟨by decide +kernel, by decide +kernel⟩, List.mem_of_getElem? (i := 1127) (by decide +kernel), List.mem_of_getElem? (i := 1489) (by decide +kernel), List.mem_of_getElem? (i := 1490) (by decide +kernel)⟩
theorem lw_p43 : lw_okq (⟨"ReadBoundModel", "isDeed", "(I)Z"⟩, 45) := ⟨⟨by decide +kernel, by decide +kernel⟩, List.mem_of_getElem? (i := 1127) (by decide +kernel), List.mem_of_getElem? (i := 1497) (by decide +kernel), List.mem_of_getElem? (i := 1498) (by decide +kernel)⟩
theorem lw_p44 : lw_okq (⟨"ReadBoundModel", "whyAct", "(II)I"⟩, 45) := ⟨⟨by decide +kernel, by decide +kernel⟩, List.mem_of_getElem? (i := 1127) (by decide +kernel), List.mem_of_getElem? (i := 1501) (by decide +kernel), List.mem_of_getElem? (i := 1502) (by decide +kernel)⟩
theorem lw_p45 : lw_okq (⟨"ReadBoundModel", "barredOf", "(I)I"⟩, 45) := ⟨⟨by decide +kernel, by decide +kernel⟩, List.mem_of_getElem? (i := 1127) (by decide +kernel), List.mem_of_getElem? (i := 1505) (by decide +kernel), List.mem_of_getElem? (i := 1506) (by decide +kernel)⟩
theorem lw_p46 : lw_okq (⟨"ReadBoundModel", "forbiddenBy", "(I)I"⟩, 45) := ⟨⟨by decide +kernel, by decide +kernel⟩, List.mem_of_getElem? (i := 1127) (by decide +kernel), List.mem_of_getElem? (i := 1509) (by decide +kernel), List.mem_of_getElem? (i := 1510) (by decide +kernel)⟩
theorem lw_p47 : lw_okq (⟨"ReadBoundModel", "acts", "(I)V"⟩, 45) := ⟨⟨by decide +kernel, by decide +kernel⟩, List.mem_of_getElem? (i := 1127) (by decide +kernel), List.mem_of_getElem? (i := 1513) (by decide +kernel), List.mem_of_getElem? (i := 1514) (by decide +kernel)⟩
def lw_privs_3 : List (MethodName × Nat) := [(⟨"ReadBoundModel", "throwsIf", "(Z)Z"⟩, 45), (⟨"ReadBoundModel", "isPlace", "(I)Z"⟩, 45), (⟨"ReadBoundModel", "freeMen", "()I"⟩, 45), (⟨"ReadBoundModel", "bindsOf", "(I)I"⟩, 45), (⟨"ReadBoundModel", "doesBind", "(II)Z"⟩, 45), (⟨"ReadBoundModel", "stateOf", "(II)I"⟩, 45), (⟨"ReadBoundModel", "isRepealed", "(II)Z"⟩, 45), (⟨"ReadBoundModel", "whyGo", "(II)I"⟩, 45), (⟨"ReadBoundModel", "keep", "()V"⟩, 45), (⟨"ReadBoundModel", "goes", "(II)V"⟩, 45), (⟨"ReadBoundModel", "comes", "(II)V"⟩, 45), (⟨"ReadBoundModel", "isDeed", "(I)Z"⟩, 45), (⟨"ReadBoundModel", "whyAct", "(II)I"⟩, 45), (⟨"ReadBoundModel", "barredOf", "(I)I"⟩, 45), (⟨"ReadBoundModel", "forbiddenBy", "(I)I"⟩, 45), (⟨"ReadBoundModel", "acts", "(I)V"⟩, 45)]
theorem lw_r3 : ∀ q ∈ lw_privs_3, lw_okq q := List.forall_mem_cons.mpr ⟨lw_p32, List.forall_mem_cons.mpr ⟨lw_p33, List.forall_mem_cons.mpr ⟨lw_p34, List.forall_mem_cons.mpr ⟨lw_p35, List.forall_mem_cons.mpr ⟨lw_p36, List.forall_mem_cons.mpr ⟨lw_p37, List.forall_mem_cons.mpr ⟨lw_p38, List.forall_mem_cons.mpr ⟨lw_p39, List.forall_mem_cons.mpr ⟨lw_p40, List.forall_mem_cons.mpr ⟨lw_p41, List.forall_mem_cons.mpr ⟨lw_p42, List.forall_mem_cons.mpr ⟨lw_p43, List.forall_mem_cons.mpr ⟨lw_p44, List.forall_mem_cons.mpr ⟨lw_p45, List.forall_mem_cons.mpr ⟨lw_p46, List.forall_mem_cons.mpr ⟨lw_p47, fun _ h => absurd h List.not_mem_nil⟩⟩⟩⟩⟩⟩⟩⟩⟩⟩⟩⟩⟩⟩⟩⟩
theorem lw_p48 : lw_okq (⟨"ReadBoundModel", "whyWear", "(II)I"⟩, 45) := ⟨⟨by decide +kernel, by decide +kernel⟩, List.mem_of_getElem? (i := 1127) (by decide +kernel), List.mem_of_getElem? (i := 1521) (by decide +kernel), List.mem_of_getElem? (i := 1522) (by decide +kernel)⟩
theorem lw_p49 : lw_okq (⟨"ReadBoundModel", "wears", "(II)V"⟩, 45) := ⟨⟨by decide +kernel, by decide +kernel⟩, List.mem_of_getElem? (i := 1127) (by decide +kernel), List.mem_of_getElem? (i := 1525) (by decide +kernel), List.mem_of_getElem? (i := 1526) (by decide +kernel)⟩
theorem lw_p50 : lw_okq (⟨"ReadBoundModel", "whyFever", "(I)I"⟩, 45) := ⟨⟨by decide +kernel, by decide +kernel⟩, List.mem_of_getElem? (i := 1127) (by decide +kernel), List.mem_of_getElem? (i := 1533) (by decide +kernel), List.mem_of_getElem? (i := 1534) (by decide +kernel)⟩
theorem lw_p51 : lw_okq (⟨"ReadBoundModel", "wordsOf", "(I)I"⟩, 45) := ⟨⟨by decide +kernel, by decide +kernel⟩, List.mem_of_getElem? (i := 1127) (by decide +kernel), List.mem_of_getElem? (i := 1537) (by decide +kernel), List.mem_of_getElem? (i := 1538) (by decide +kernel)⟩
theorem lw_p52 : lw_okq (⟨"ReadBoundModel", "fevers", "(I)V"⟩, 45) := ⟨⟨by decide +kernel, by decide +kernel⟩, List.mem_of_getElem? (i := 1127) (by decide +kernel), List.mem_of_getElem? (i := 1541) (by decide +kernel), List.mem_of_getElem? (i := 1542) (by decide +kernel)⟩
theorem lw_p53 : lw_okq (⟨"ReadBoundModel", "whyPost", "(II)I"⟩, 45) := ⟨⟨by decide +kernel, by decide +kernel⟩, List.mem_of_getElem? (i := 1127) (by decide +kernel), List.mem_of_getElem? (i := 1549) (by decide +kernel), List.mem_of_getElem? (i := 1550) (by decide +kernel)⟩
theorem lw_p54 : lw_okq (⟨"ReadBoundModel", "putsUp", "(II)V"⟩, 45) := ⟨⟨by decide +kernel, by decide +kernel⟩, List.mem_of_getElem? (i := 1127) (by decide +kernel), List.mem_of_getElem? (i := 1553) (by decide +kernel), List.mem_of_getElem? (i := 1554) (by decide +kernel)⟩
theorem lw_p55 : lw_okq (⟨"ReadBoundModel", "whyRain", "(I)I"⟩, 45) := ⟨⟨by decide +kernel, by decide +kernel⟩, List.mem_of_getElem? (i := 1127) (by decide +kernel), List.mem_of_getElem? (i := 1561) (by decide +kernel), List.mem_of_getElem? (i := 1562) (by decide +kernel)⟩
theorem lw_p56 : lw_okq (⟨"ReadBoundModel", "rains", "(I)V"⟩, 45) := ⟨⟨by decide +kernel, by decide +kernel⟩, List.mem_of_getElem? (i := 1127) (by decide +kernel), List.mem_of_getElem? (i := 1565) (by decide +kernel), List.mem_of_getElem? (i := 1566) (by decide +kernel)⟩
theorem lw_p57 : lw_okq (⟨"ReadBoundModel", "goesOn", "(I)I"⟩, 45) := ⟨⟨by decide +kernel, by decide +kernel⟩, List.mem_of_getElem? (i := 1127) (by decide +kernel), List.mem_of_getElem? (i := 1573) (by decide +kernel), List.mem_of_getElem? (i := 1574) (by decide +kernel)⟩
theorem lw_p58 : lw_okq (⟨"ReadBoundModel", "day", "()V"⟩, 45) := ⟨⟨by decide +kernel, by decide +kernel⟩, List.mem_of_getElem? (i := 1127) (by decide +kernel), List.mem_of_getElem? (i := 1577) (by decide +kernel), List.mem_of_getElem? (i := 1578) (by decide +kernel)⟩
theorem lw_p59 : lw_okq (⟨"ReadBoundModel", "walks", "(I)V"⟩, 45) := ⟨⟨by decide +kernel, by decide +kernel⟩, List.mem_of_getElem? (i := 1127) (by decide +kernel), List.mem_of_getElem? (i := 1581) (by decide +kernel), List.mem_of_getElem? (i := 1582) (by decide +kernel)⟩
theorem lw_p60 : lw_okq (⟨"ReadBoundModel", "wayOf", "(III)I"⟩, 45) := ⟨⟨by decide +kernel, by decide +kernel⟩, List.mem_of_getElem? (i := 1127) (by decide +kernel), List.mem_of_getElem? (i := 1625) (by decide +kernel), List.mem_of_getElem? (i := 1626) (by decide +kernel)⟩
theorem lw_p61 : lw_okq (⟨"ReadBoundModel", "canEnter", "(II)Z"⟩, 45) := ⟨⟨by decide +kernel, by decide +kernel⟩, List.mem_of_getElem? (i := 1127) (by decide +kernel), List.mem_of_getElem? (i := 1629) (by decide +kernel), List.mem_of_getElem? (i := 1630) (by decide +kernel)⟩
theorem lw_p62 : lw_okq (⟨"ReadBoundModel", "tries", "()V"⟩, 45) := ⟨⟨by decide +kernel, by decide +kernel⟩, List.mem_of_getElem? (i := 1127) (by decide +kernel), List.mem_of_getElem? (i := 1645) (by decide +kernel), List.mem_of_getElem? (i := 1646) (by decide +kernel)⟩
theorem lw_p63 : lw_okq (⟨"ReadBoundModel", "isUnread", "(III)Z"⟩, 45) := ⟨⟨by decide +kernel, by decide +kernel⟩, List.mem_of_getElem? (i := 1127) (by decide +kernel), List.mem_of_getElem? (i := 1649) (by decide +kernel), List.mem_of_getElem? (i := 1650) (by decide +kernel)⟩
def lw_privs_4 : List (MethodName × Nat) := [(⟨"ReadBoundModel", "whyWear", "(II)I"⟩, 45), (⟨"ReadBoundModel", "wears", "(II)V"⟩, 45), (⟨"ReadBoundModel", "whyFever", "(I)I"⟩, 45), (⟨"ReadBoundModel", "wordsOf", "(I)I"⟩, 45), (⟨"ReadBoundModel", "fevers", "(I)V"⟩, 45), (⟨"ReadBoundModel", "whyPost", "(II)I"⟩, 45), (⟨"ReadBoundModel", "putsUp", "(II)V"⟩, 45), (⟨"ReadBoundModel", "whyRain", "(I)I"⟩, 45), (⟨"ReadBoundModel", "rains", "(I)V"⟩, 45), (⟨"ReadBoundModel", "goesOn", "(I)I"⟩, 45), (⟨"ReadBoundModel", "day", "()V"⟩, 45), (⟨"ReadBoundModel", "walks", "(I)V"⟩, 45), (⟨"ReadBoundModel", "wayOf", "(III)I"⟩, 45), (⟨"ReadBoundModel", "canEnter", "(II)Z"⟩, 45), (⟨"ReadBoundModel", "tries", "()V"⟩, 45), (⟨"ReadBoundModel", "isUnread", "(III)Z"⟩, 45)]
theorem lw_r4 : ∀ q ∈ lw_privs_4, lw_okq q := List.forall_mem_cons.mpr ⟨lw_p48, List.forall_mem_cons.mpr ⟨lw_p49, List.forall_mem_cons.mpr ⟨lw_p50, List.forall_mem_cons.mpr ⟨lw_p51, List.forall_mem_cons.mpr ⟨lw_p52, List.forall_mem_cons.mpr ⟨lw_p53, List.forall_mem_cons.mpr ⟨lw_p54, List.forall_mem_cons.mpr ⟨lw_p55, List.forall_mem_cons.mpr ⟨lw_p56, List.forall_mem_cons.mpr ⟨lw_p57, List.forall_mem_cons.mpr ⟨lw_p58, List.forall_mem_cons.mpr ⟨lw_p59, List.forall_mem_cons.mpr ⟨lw_p60, List.forall_mem_cons.mpr ⟨lw_p61, List.forall_mem_cons.mpr ⟨lw_p62, List.forall_mem_cons.mpr ⟨lw_p63, fun _ h => absurd h List.not_mem_nil⟩⟩⟩⟩⟩⟩⟩⟩⟩⟩⟩⟩⟩⟩⟩⟩
theorem lw_p64 : lw_okq (⟨"ReadBoundModel", "back", "()V"⟩, 45) := ⟨⟨by decide +kernel, by decide +kernel⟩, List.mem_of_getElem? (i := 1127) (by decide +kernel), List.mem_of_getElem? (i := 1653) (by decide +kernel), List.mem_of_getElem? (i := 1654) (by decide +kernel)⟩
theorem lw_p65 : lw_okq (⟨"ReadBoundModel", "readersOf", "(I)I"⟩, 45) := ⟨⟨by decide +kernel, by decide +kernel⟩, List.mem_of_getElem? (i := 1127) (by decide +kernel), List.mem_of_getElem? (i := 1661) (by decide +kernel), List.mem_of_getElem? (i := 1662) (by decide +kernel)⟩
theorem lw_p66 : lw_okq (⟨"ReadBoundModel", "draws", "(II)I"⟩, 45) := ⟨⟨by decide +kernel, by decide +kernel⟩, List.mem_of_getElem? (i := 1127) (by decide +kernel), List.mem_of_getElem? (i := 1685) (by decide +kernel), List.mem_of_getElem? (i := 1686) (by decide +kernel)⟩
theorem lw_p67 : lw_okq (⟨"ReadBoundModel", "draw", "(I)I"⟩, 45) := ⟨⟨by decide +kernel, by decide +kernel⟩, List.mem_of_getElem? (i := 1127) (by decide +kernel), List.mem_of_getElem? (i := 1689) (by decide +kernel), List.mem_of_getElem? (i := 1690) (by decide +kernel)⟩
theorem lw_p68 : lw_okq (⟨"ReadBoundModel", "bookLine", "()Z"⟩, 45) := ⟨⟨by decide +kernel, by decide +kernel⟩, List.mem_of_getElem? (i := 1127) (by decide +kernel), List.mem_of_getElem? (i := 1702) (by decide +kernel), List.mem_of_getElem? (i := 1703) (by decide +kernel)⟩
theorem lw_p69 : lw_okq (⟨"ReadBoundModel", "putsName", "(III)Z"⟩, 45) := ⟨⟨by decide +kernel, by decide +kernel⟩, List.mem_of_getElem? (i := 1127) (by decide +kernel), List.mem_of_getElem? (i := 1706) (by decide +kernel), List.mem_of_getElem? (i := 1707) (by decide +kernel)⟩
theorem lw_p70 : lw_okq (⟨"ReadBoundModel", "whyLine", "(III)I"⟩, 45) := ⟨⟨by decide +kernel, by decide +kernel⟩, List.mem_of_getElem? (i := 1127) (by decide +kernel), List.mem_of_getElem? (i := 1710) (by decide +kernel), List.mem_of_getElem? (i := 1711) (by decide +kernel)⟩
theorem lw_p71 : lw_okq (⟨"ReadBoundModel", "livesLine", "(III)V"⟩, 45) := ⟨⟨by decide +kernel, by decide +kernel⟩, List.mem_of_getElem? (i := 1127) (by decide +kernel), List.mem_of_getElem? (i := 1714) (by decide +kernel), List.mem_of_getElem? (i := 1715) (by decide +kernel)⟩
theorem lw_p72 : lw_okq (⟨"ReadBoundModel", "nots", "()V"⟩, 45) := ⟨⟨by decide +kernel, by decide +kernel⟩, List.mem_of_getElem? (i := 1127) (by decide +kernel), List.mem_of_getElem? (i := 1726) (by decide +kernel), List.mem_of_getElem? (i := 1727) (by decide +kernel)⟩
theorem lw_p73 : lw_okq (⟨"ReadBoundModel", "code", "(III)V"⟩, 45) := ⟨⟨by decide +kernel, by decide +kernel⟩, List.mem_of_getElem? (i := 1127) (by decide +kernel), List.mem_of_getElem? (i := 1730) (by decide +kernel), List.mem_of_getElem? (i := 1731) (by decide +kernel)⟩
theorem lw_p74 : lw_okq (⟨"ReadBoundModel", "joins", "(I)V"⟩, 45) := ⟨⟨by decide +kernel, by decide +kernel⟩, List.mem_of_getElem? (i := 1127) (by decide +kernel), List.mem_of_getElem? (i := 1734) (by decide +kernel), List.mem_of_getElem? (i := 1735) (by decide +kernel)⟩
theorem lw_p75 : lw_okq (⟨"ReadBoundModel", "behind", "()Z"⟩, 45) := ⟨⟨by decide +kernel, by decide +kernel⟩, List.mem_of_getElem? (i := 1127) (by decide +kernel), List.mem_of_getElem? (i := 1738) (by decide +kernel), List.mem_of_getElem? (i := 1739) (by decide +kernel)⟩
theorem lw_p76 : lw_okq (⟨"ReadBoundModel", "operand", "()Z"⟩, 45) := ⟨⟨by decide +kernel, by decide +kernel⟩, List.mem_of_getElem? (i := 1127) (by decide +kernel), List.mem_of_getElem? (i := 1742) (by decide +kernel), List.mem_of_getElem? (i := 1743) (by decide +kernel)⟩
theorem lw_p77 : lw_okq (⟨"ReadBoundModel", "leafOf", "()I"⟩, 45) := ⟨⟨by decide +kernel, by decide +kernel⟩, List.mem_of_getElem? (i := 1127) (by decide +kernel), List.mem_of_getElem? (i := 1746) (by decide +kernel), List.mem_of_getElem? (i := 1747) (by decide +kernel)⟩
theorem lw_p78 : lw_okq (⟨"ReadBoundModel", "isSaid", "(I)Z"⟩, 45) := ⟨⟨by decide +kernel, by decide +kernel⟩, List.mem_of_getElem? (i := 1127) (by decide +kernel), List.mem_of_getElem? (i := 1754) (by decide +kernel), List.mem_of_getElem? (i := 1755) (by decide +kernel)⟩
theorem lw_p79 : lw_okq (⟨"ReadBoundModel", "isLeaf", "(IIII)Z"⟩, 45) := ⟨⟨by decide +kernel, by decide +kernel⟩, List.mem_of_getElem? (i := 1127) (by decide +kernel), List.mem_of_getElem? (i := 1758) (by decide +kernel), List.mem_of_getElem? (i := 1759) (by decide +kernel)⟩
def lw_privs_5 : List (MethodName × Nat) := [(⟨"ReadBoundModel", "back", "()V"⟩, 45), (⟨"ReadBoundModel", "readersOf", "(I)I"⟩, 45), (⟨"ReadBoundModel", "draws", "(II)I"⟩, 45), (⟨"ReadBoundModel", "draw", "(I)I"⟩, 45), (⟨"ReadBoundModel", "bookLine", "()Z"⟩, 45), (⟨"ReadBoundModel", "putsName", "(III)Z"⟩, 45), (⟨"ReadBoundModel", "whyLine", "(III)I"⟩, 45), (⟨"ReadBoundModel", "livesLine", "(III)V"⟩, 45), (⟨"ReadBoundModel", "nots", "()V"⟩, 45), (⟨"ReadBoundModel", "code", "(III)V"⟩, 45), (⟨"ReadBoundModel", "joins", "(I)V"⟩, 45), (⟨"ReadBoundModel", "behind", "()Z"⟩, 45), (⟨"ReadBoundModel", "operand", "()Z"⟩, 45), (⟨"ReadBoundModel", "leafOf", "()I"⟩, 45), (⟨"ReadBoundModel", "isSaid", "(I)Z"⟩, 45), (⟨"ReadBoundModel", "isLeaf", "(IIII)Z"⟩, 45)]
theorem lw_r5 : ∀ q ∈ lw_privs_5, lw_okq q := List.forall_mem_cons.mpr ⟨lw_p64, List.forall_mem_cons.mpr ⟨lw_p65, List.forall_mem_cons.mpr ⟨lw_p66, List.forall_mem_cons.mpr ⟨lw_p67, List.forall_mem_cons.mpr ⟨lw_p68, List.forall_mem_cons.mpr ⟨lw_p69, List.forall_mem_cons.mpr ⟨lw_p70, List.forall_mem_cons.mpr ⟨lw_p71, List.forall_mem_cons.mpr ⟨lw_p72, List.forall_mem_cons.mpr ⟨lw_p73, List.forall_mem_cons.mpr ⟨lw_p74, List.forall_mem_cons.mpr ⟨lw_p75, List.forall_mem_cons.mpr ⟨lw_p76, List.forall_mem_cons.mpr ⟨lw_p77, List.forall_mem_cons.mpr ⟨lw_p78, List.forall_mem_cons.mpr ⟨lw_p79, fun _ h => absurd h List.not_mem_nil⟩⟩⟩⟩⟩⟩⟩⟩⟩⟩⟩⟩⟩⟩⟩⟩
def lw_privs : List (MethodName × Nat) := lw_privs_1 ++ (lw_privs_2 ++ (lw_privs_3 ++ (lw_privs_4 ++ (lw_privs_5))))
def lw_tbl : List Cond := k2_sels lw_privs ++ tables_1
theorem lw_privs_ok : ∀ q ∈ lw_privs, lw_okq q := by
  show ∀ q ∈ lw_privs_1 ++ (lw_privs_2 ++ (lw_privs_3 ++ (lw_privs_4 ++ (lw_privs_5)))), lw_okq q
  exact List.forall_mem_append.mpr ⟨lw_r1, List.forall_mem_append.mpr ⟨lw_r2, List.forall_mem_append.mpr ⟨lw_r3, List.forall_mem_append.mpr ⟨lw_r4, lw_r5⟩⟩⟩⟩

/-! ===== BEGIN words of one list among another's, by their places ===== -/
theorem goodIn_r {big : List Cond} (ws : List Cond) (ps : List Nat) (hp : ws = ps.filterMap (fun i => big[i]?)) (h : ws.all goodWord = true) : GoodIn big ws := by
  intro w hw
  have h1 := List.all_eq_true.mp h w hw
  rw [hp] at hw
  obtain ⟨i, -, hi⟩ := List.mem_filterMap.mp hw
  have hm : w ∈ big := by first | exact List.mem_of_getElem? hi | exact List.getElem?_mem hi
  exact ⟨hm, good_of_word h1⟩
theorem goodIn_app {big a b : List Cond} (ha : GoodIn big a) (hb : GoodIn big b) : GoodIn big (a ++ b) := fun w h => (List.mem_append.mp h).elim (ha w) (hb w)
theorem goodIn_ca {big a b : List Cond} {c : Cond} (ha : GoodIn big (c :: a)) (hb : GoodIn big b) : GoodIn big (c :: (a ++ b)) := fun w h => (List.mem_cons.mp h).elim (fun e => ha w (List.mem_cons.mpr (Or.inl e))) (fun h => (List.mem_append.mp h).elim (fun h => ha w (List.mem_cons.mpr (Or.inr h))) (hb w))
theorem goodIn_sub {big ws : List Cond} (hm : ∀ w ∈ ws, w ∈ big) (h : ws.all goodWord = true) : GoodIn big ws := fun w hw => ⟨hm w hw, good_of_word (List.all_eq_true.mp h w hw)⟩
/-! ===== END ===== -/


def RX0 : String := "ReadBound$Diary"
def TX0 : u_T := fun k => match k with
  | 0 => ("ReadBound$Diary", "tokens", "LReadBound$Tokens;", true)
  | 1 => ("ReadBound$Diary", "land", "LReadBound$Land;", true)
  | 2 => ("ReadBound$Diary", "whats", "[I", true)
  | 3 => ("ReadBound$Diary", "firsts", "[I", true)
  | 4 => ("ReadBound$Diary", "seconds", "[I", true)
  | _ => ("ReadBound$Diary", "lines", "I", false)
def tyX0 : Nat → FieldType := fun k => match k with
  | 0 => .object "ReadBound$Tokens"
  | 1 => .object "ReadBound$Land"
  | 2 => .array .int
  | 3 => .array .int
  | 4 => .array .int
  | _ => .int
abbrev wsX00 : List Cond := u_ws RX0 TX0 6
theorem nmX0 : ∀ a, a < 6 → ∀ b, b < 6 → a ≠ b → (TX0 a).2.1 ≠ (TX0 b).2.1 := by decide +kernel
theorem tyX0_ok : ∀ k, k < 6 → parseFieldDescriptor (TX0 k).2.2.1 = some (tyX0 k) := by decide +kernel

theorem inX0 : ∀ w ∈ wsX00, w ∈ lw_tbl := by decide +kernel

def RX1 : String := "ReadBound$Image"
def TX1 : u_T := fun k => match k with
  | 0 => ("ReadBound$Image", "land", "LReadBound$Land;", true)
  | 1 => ("ReadBound$Image", "life", "LReadBound$Life;", true)
  | 2 => ("ReadBound$Image", "sentence", "LReadBound$Sentence;", true)
  | _ => ("ReadBound$Image", "kept", "Z", false)
def tyX1 : Nat → FieldType := fun k => match k with
  | 0 => .object "ReadBound$Land"
  | 1 => .object "ReadBound$Life"
  | 2 => .object "ReadBound$Sentence"
  | _ => .boolean
abbrev wsX10 : List Cond := u_ws RX1 TX1 4
theorem nmX1 : ∀ a, a < 4 → ∀ b, b < 4 → a ≠ b → (TX1 a).2.1 ≠ (TX1 b).2.1 := by decide +kernel
theorem tyX1_ok : ∀ k, k < 4 → parseFieldDescriptor (TX1 k).2.2.1 = some (tyX1 k) := by decide +kernel

theorem inX1 : ∀ w ∈ wsX10, w ∈ lw_tbl := by decide +kernel

def RX2 : String := "ReadBound$Land"
def TX2 : u_T := fun k => match k with
  | 0 => ("ReadBound$Land", "facts", "[I", true)
  | _ => ("ReadBound$Land", "names", "[J", true)
def tyX2 : Nat → FieldType := fun k => match k with
  | 0 => .array .int
  | _ => .array .long
abbrev wsX20 : List Cond := u_ws RX2 TX2 2
theorem nmX2 : ∀ a, a < 2 → ∀ b, b < 2 → a ≠ b → (TX2 a).2.1 ≠ (TX2 b).2.1 := by decide +kernel
theorem tyX2_ok : ∀ k, k < 2 → parseFieldDescriptor (TX2 k).2.2.1 = some (tyX2 k) := by decide +kernel

theorem inX2 : ∀ w ∈ wsX20, w ∈ lw_tbl := by decide +kernel

def RX3 : String := "ReadBound$LandReader"
def TX3 : u_T := fun k => match k with
  | 0 => ("ReadBound$LandReader", "tokens", "LReadBound$Tokens;", true)
  | _ => ("ReadBound$LandReader", "land", "LReadBound$Land;", true)
def tyX3 : Nat → FieldType := fun k => match k with
  | 0 => .object "ReadBound$Tokens"
  | _ => .object "ReadBound$Land"
abbrev wsX30 : List Cond := u_ws RX3 TX3 2
theorem nmX3 : ∀ a, a < 2 → ∀ b, b < 2 → a ≠ b → (TX3 a).2.1 ≠ (TX3 b).2.1 := by decide +kernel
theorem tyX3_ok : ∀ k, k < 2 → parseFieldDescriptor (TX3 k).2.2.1 = some (tyX3 k) := by decide +kernel

theorem inX3 : ∀ w ∈ wsX30, w ∈ lw_tbl := by decide +kernel

def RX4 : String := "ReadBound$Life"
def TX4 : u_T := fun k => match k with
  | 0 => ("ReadBound$Life", "facts", "[I", true)
  | 1 => ("ReadBound$Life", "cells", "[I", true)
  | _ => ("ReadBound$Life", "seed", "I", false)
def tyX4 : Nat → FieldType := fun k => match k with
  | 0 => .array .int
  | 1 => .array .int
  | _ => .int
abbrev wsX40 : List Cond := u_ws RX4 TX4 3
theorem nmX4 : ∀ a, a < 3 → ∀ b, b < 3 → a ≠ b → (TX4 a).2.1 ≠ (TX4 b).2.1 := by decide +kernel
theorem tyX4_ok : ∀ k, k < 3 → parseFieldDescriptor (TX4 k).2.2.1 = some (tyX4 k) := by decide +kernel

theorem inX4 : ∀ w ∈ wsX40, w ∈ lw_tbl := by decide +kernel

def RX5 : String := "ReadBound$Past"
def TX5 : u_T := fun k => match k with
  | 0 => ("ReadBound$Past", "kept", "[I", true)
  | 1 => ("ReadBound$Past", "next", "I", false)
  | _ => ("ReadBound$Past", "count", "I", false)
def tyX5 : Nat → FieldType := fun k => match k with
  | 0 => .array .int
  | 1 => .int
  | _ => .int
abbrev wsX50 : List Cond := u_ws RX5 TX5 3
theorem nmX5 : ∀ a, a < 3 → ∀ b, b < 3 → a ≠ b → (TX5 a).2.1 ≠ (TX5 b).2.1 := by decide +kernel
theorem tyX5_ok : ∀ k, k < 3 → parseFieldDescriptor (TX5 k).2.2.1 = some (tyX5 k) := by decide +kernel

theorem inX5 : ∀ w ∈ wsX50, w ∈ lw_tbl := by decide +kernel

def RX6 : String := "ReadBound$Route"
def TX6 : u_T := fun k => match k with
  | 0 => ("ReadBound$Route", "facts", "[I", true)
  | 1 => ("ReadBound$Route", "steps", "[I", true)
  | 2 => ("ReadBound$Route", "layers", "[I", true)
  | _ => ("ReadBound$Route", "length", "I", false)
def tyX6 : Nat → FieldType := fun k => match k with
  | 0 => .array .int
  | 1 => .array .int
  | 2 => .array .int
  | _ => .int
abbrev wsX60 : List Cond := u_ws RX6 TX6 4
theorem nmX6 : ∀ a, a < 4 → ∀ b, b < 4 → a ≠ b → (TX6 a).2.1 ≠ (TX6 b).2.1 := by decide +kernel
theorem tyX6_ok : ∀ k, k < 4 → parseFieldDescriptor (TX6 k).2.2.1 = some (tyX6 k) := by decide +kernel

theorem inX6 : ∀ w ∈ wsX60, w ∈ lw_tbl := by decide +kernel

def RX7 : String := "ReadBound$Sentence"
def TX7 : u_T := fun k => match k with
  | 0 => ("ReadBound$Sentence", "parts", "[I", true)
  | 1 => ("ReadBound$Sentence", "signs", "[I", true)
  | 2 => ("ReadBound$Sentence", "numbers", "[I", true)
  | 3 => ("ReadBound$Sentence", "stack", "[I", true)
  | _ => ("ReadBound$Sentence", "size", "I", false)
def tyX7 : Nat → FieldType := fun k => match k with
  | 0 => .array .int
  | 1 => .array .int
  | 2 => .array .int
  | 3 => .array .int
  | _ => .int
abbrev wsX70 : List Cond := u_ws RX7 TX7 5
theorem nmX7 : ∀ a, a < 5 → ∀ b, b < 5 → a ≠ b → (TX7 a).2.1 ≠ (TX7 b).2.1 := by decide +kernel
theorem tyX7_ok : ∀ k, k < 5 → parseFieldDescriptor (TX7 k).2.2.1 = some (tyX7 k) := by decide +kernel

theorem inX7 : ∀ w ∈ wsX70, w ∈ lw_tbl := by decide +kernel

def RX8 : String := "ReadBound$SentenceReader"
def TX8 : u_T := fun k => match k with
  | 0 => ("ReadBound$SentenceReader", "tokens", "LReadBound$Tokens;", true)
  | 1 => ("ReadBound$SentenceReader", "land", "LReadBound$Land;", true)
  | 2 => ("ReadBound$SentenceReader", "sentence", "LReadBound$Sentence;", true)
  | _ => ("ReadBound$SentenceReader", "ones", "I", false)
def tyX8 : Nat → FieldType := fun k => match k with
  | 0 => .object "ReadBound$Tokens"
  | 1 => .object "ReadBound$Land"
  | 2 => .object "ReadBound$Sentence"
  | _ => .int
abbrev wsX80 : List Cond := u_ws RX8 TX8 4
theorem nmX8 : ∀ a, a < 4 → ∀ b, b < 4 → a ≠ b → (TX8 a).2.1 ≠ (TX8 b).2.1 := by decide +kernel
theorem tyX8_ok : ∀ k, k < 4 → parseFieldDescriptor (TX8 k).2.2.1 = some (tyX8 k) := by decide +kernel

theorem inX8 : ∀ w ∈ wsX80, w ∈ lw_tbl := by decide +kernel

def RX9 : String := "ReadBound$Tokens"
def TX9 : u_T := fun k => match k with
  | 0 => ("ReadBound$Tokens", "tape", "[B", true)
  | 1 => ("ReadBound$Tokens", "vocabulary", "[J", true)
  | 2 => ("ReadBound$Tokens", "bytes", "I", false)
  | 3 => ("ReadBound$Tokens", "most", "I", false)
  | 4 => ("ReadBound$Tokens", "next", "I", false)
  | 5 => ("ReadBound$Tokens", "kind", "I", false)
  | 6 => ("ReadBound$Tokens", "start", "I", false)
  | 7 => ("ReadBound$Tokens", "value", "I", false)
  | 8 => ("ReadBound$Tokens", "word", "J", false)
  | 9 => ("ReadBound$Tokens", "keyword", "I", false)
  | 10 => ("ReadBound$Tokens", "fault", "I", false)
  | _ => ("ReadBound$Tokens", "faultAt", "I", false)
def tyX9 : Nat → FieldType := fun k => match k with
  | 0 => .array .byte
  | 1 => .array .long
  | 2 => .int
  | 3 => .int
  | 4 => .int
  | 5 => .int
  | 6 => .int
  | 7 => .int
  | 8 => .long
  | 9 => .int
  | 10 => .int
  | _ => .int
abbrev wsX90 : List Cond := u_ws RX9 TX9 12
theorem nmX9 : ∀ a, a < 12 → ∀ b, b < 12 → a ≠ b → (TX9 a).2.1 ≠ (TX9 b).2.1 := by decide +kernel
theorem tyX9_ok : ∀ k, k < 12 → parseFieldDescriptor (TX9 k).2.2.1 = some (tyX9 k) := by decide +kernel

theorem inX9 : ∀ w ∈ wsX90, w ∈ lw_tbl := by decide +kernel

def RX10 : String := "ReadBound"
def TX10 : u_T := fun k => match k with
  | 0 => ("ReadBound", "tokens", "LReadBound$Tokens;", true)
  | 1 => ("ReadBound", "land", "LReadBound$Land;", true)
  | 2 => ("ReadBound", "spareLand", "LReadBound$Land;", true)
  | 3 => ("ReadBound", "landReader", "LReadBound$LandReader;", true)
  | 4 => ("ReadBound", "life", "LReadBound$Life;", true)
  | 5 => ("ReadBound", "trial", "LReadBound$Life;", true)
  | 6 => ("ReadBound", "past", "LReadBound$Past;", true)
  | 7 => ("ReadBound", "sentence", "LReadBound$Sentence;", true)
  | 8 => ("ReadBound", "spareSentence", "LReadBound$Sentence;", true)
  | 9 => ("ReadBound", "sentenceReader", "LReadBound$SentenceReader;", true)
  | 10 => ("ReadBound", "diary", "LReadBound$Diary;", true)
  | 11 => ("ReadBound", "route", "LReadBound$Route;", true)
  | 12 => ("ReadBound", "scout", "LReadBound$Route;", true)
  | 13 => ("ReadBound", "firstImage", "LReadBound$Image;", true)
  | 14 => ("ReadBound", "secondImage", "LReadBound$Image;", true)
  | 15 => ("ReadBound", "told", "[I", true)
  | 16 => ("ReadBound", "diaryTold", "Z", false)
  | 17 => ("ReadBound", "posted", "I", false)
  | _ => ("ReadBound", "surely", "I", false)
def tyX10 : Nat → FieldType := fun k => match k with
  | 0 => .object "ReadBound$Tokens"
  | 1 => .object "ReadBound$Land"
  | 2 => .object "ReadBound$Land"
  | 3 => .object "ReadBound$LandReader"
  | 4 => .object "ReadBound$Life"
  | 5 => .object "ReadBound$Life"
  | 6 => .object "ReadBound$Past"
  | 7 => .object "ReadBound$Sentence"
  | 8 => .object "ReadBound$Sentence"
  | 9 => .object "ReadBound$SentenceReader"
  | 10 => .object "ReadBound$Diary"
  | 11 => .object "ReadBound$Route"
  | 12 => .object "ReadBound$Route"
  | 13 => .object "ReadBound$Image"
  | 14 => .object "ReadBound$Image"
  | 15 => .array .int
  | 16 => .boolean
  | 17 => .int
  | _ => .int
abbrev wsX100 : List Cond := u_ws RX10 TX10 19
theorem nmX10 : ∀ a, a < 19 → ∀ b, b < 19 → a ≠ b → (TX10 a).2.1 ≠ (TX10 b).2.1 := by decide +kernel
theorem tyX10_ok : ∀ k, k < 19 → parseFieldDescriptor (TX10 k).2.2.1 = some (tyX10 k) := by decide +kernel

theorem inX10 : ∀ w ∈ wsX100, w ∈ lw_tbl := by decide +kernel

def RX11 : String := "ReadBoundModel"
def TX11 : u_T := fun k => match k with
  | 0 => ("ReadBoundModel", "thrown", "I", false)
  | 1 => ("ReadBoundModel", "tape", "[B", true)
  | 2 => ("ReadBoundModel", "length", "I", false)
  | 3 => ("ReadBoundModel", "size", "I", false)
  | 4 => ("ReadBoundModel", "p", "I", false)
  | 5 => ("ReadBoundModel", "limit", "I", false)
  | 6 => ("ReadBoundModel", "s", "[I", true)
  | 7 => ("ReadBoundModel", "h", "[I", true)
  | 8 => ("ReadBoundModel", "read", "[I", true)
  | 9 => ("ReadBoundModel", "names", "[J", true)
  | 10 => ("ReadBoundModel", "reserved", "[J", true)
  | 11 => ("ReadBoundModel", "token", "I", false)
  | 12 => ("ReadBoundModel", "at", "I", false)
  | 13 => ("ReadBoundModel", "span", "I", false)
  | 14 => ("ReadBoundModel", "number", "I", false)
  | 15 => ("ReadBoundModel", "fault", "I", false)
  | 16 => ("ReadBoundModel", "faultAt", "I", false)
  | 17 => ("ReadBoundModel", "word", "J", false)
  | 18 => ("ReadBoundModel", "got", "I", false)
  | 19 => ("ReadBoundModel", "lines", "I", false)
  | 20 => ("ReadBoundModel", "undone", "[I", true)
  | 21 => ("ReadBoundModel", "before", "[I", true)
  | 22 => ("ReadBoundModel", "undoMany", "I", false)
  | 23 => ("ReadBoundModel", "far", "[I", true)
  | 24 => ("ReadBoundModel", "wayRow", "[I", true)
  | 25 => ("ReadBoundModel", "stepRow", "[I", true)
  | 26 => ("ReadBoundModel", "stepMany", "I", false)
  | 27 => ("ReadBoundModel", "postedMen", "I", false)
  | 28 => ("ReadBoundModel", "hasPosts", "Z", false)
  | 29 => ("ReadBoundModel", "surelySet", "I", false)
  | 30 => ("ReadBoundModel", "hasReads", "Z", false)
  | 31 => ("ReadBoundModel", "seed", "I", false)
  | 32 => ("ReadBoundModel", "told", "I", false)
  | 33 => ("ReadBoundModel", "toldAt", "[I", true)
  | 34 => ("ReadBoundModel", "hasTold", "Z", false)
  | 35 => ("ReadBoundModel", "stack", "[I", true)
  | 36 => ("ReadBoundModel", "codes", "I", false)
  | 37 => ("ReadBoundModel", "ones", "I", false)
  | 38 => ("ReadBoundModel", "top", "I", false)
  | 39 => ("ReadBoundModel", "deep", "I", false)
  | 40 => ("ReadBoundModel", "isWhole", "Z", false)
  | 41 => ("ReadBoundModel", "truths", "[Z", true)
  | 42 => ("ReadBoundModel", "kept", "[I", true)
  | 43 => ("ReadBoundModel", "namesKept", "[J", true)
  | _ => ("ReadBoundModel", "areKept", "[Z", true)
def tyX11 : Nat → FieldType := fun k => match k with
  | 0 => .int
  | 1 => .array .byte
  | 2 => .int
  | 3 => .int
  | 4 => .int
  | 5 => .int
  | 6 => .array .int
  | 7 => .array .int
  | 8 => .array .int
  | 9 => .array .long
  | 10 => .array .long
  | 11 => .int
  | 12 => .int
  | 13 => .int
  | 14 => .int
  | 15 => .int
  | 16 => .int
  | 17 => .long
  | 18 => .int
  | 19 => .int
  | 20 => .array .int
  | 21 => .array .int
  | 22 => .int
  | 23 => .array .int
  | 24 => .array .int
  | 25 => .array .int
  | 26 => .int
  | 27 => .int
  | 28 => .boolean
  | 29 => .int
  | 30 => .boolean
  | 31 => .int
  | 32 => .int
  | 33 => .array .int
  | 34 => .boolean
  | 35 => .array .int
  | 36 => .int
  | 37 => .int
  | 38 => .int
  | 39 => .int
  | 40 => .boolean
  | 41 => .array .boolean
  | 42 => .array .int
  | 43 => .array .long
  | _ => .array .boolean
abbrev wsX110 : List Cond := u_ws RX11 TX11 45
theorem nmX11 : ∀ a, a < 45 → ∀ b, b < 45 → a ≠ b → (TX11 a).2.1 ≠ (TX11 b).2.1 := by decide +kernel
theorem tyX11_ok : ∀ k, k < 45 → parseFieldDescriptor (TX11 k).2.2.1 = some (tyX11 k) := by decide +kernel

theorem inX11 : ∀ w ∈ wsX110, w ∈ lw_tbl := by decide +kernel

abbrev vwCl : List vw_C := [(RX0, TX0, 6), (RX1, TX1, 4), (RX2, TX2, 2), (RX3, TX3, 2), (RX4, TX4, 3), (RX5, TX5, 3), (RX6, TX6, 4), (RX7, TX7, 5), (RX8, TX8, 4), (RX9, TX9, 12), (RX10, TX10, 19), (RX11, TX11, 45)]

def pi_cn : List String := [RX0, RX1, RX2, RX3, RX4, RX5, RX6, RX7, RX8, RX9, RX10, RX11, "java/lang/Integer"]

def pi_ty (c : Nat) : Nat → FieldType := match c with
  | 0 => tyX0
  | 1 => tyX1
  | 2 => tyX2
  | 3 => tyX3
  | 4 => tyX4
  | 5 => tyX5
  | 6 => tyX6
  | 7 => tyX7
  | 8 => tyX8
  | 9 => tyX9
  | 10 => tyX10
  | _ => tyX11
