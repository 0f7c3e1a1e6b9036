section
-- ===== PART A: goes FIRST, ahead of the names: the tables' words, and 'selects' of the private methods out of them =====
/-- a private method of a class that the tables say can be made, by its rows of tables_1 -/
def lw_okq (q : MethodName × Nat) : Prop := (q.1.cls ≠ "java/lang/invoke/MethodHandle" ∧ q.1.cls ≠ "java/lang/invoke/VarHandle") ∧ Cond.instantiable q.1.cls q.2 ∈ tables_1 ∧ Cond.privateMethod q.1 ∈ tables_1 ∧ Cond.instanceMethod q.1 ∈ tables_1
theorem lw_p0 : lw_okq (⟨"ReadBound", "isOne", "(II)Z"⟩, 19) := ⟨⟨by decide +kernel, by decide +kernel⟩, List.mem_of_getElem? (i := 25) (by decide +kernel), List.mem_of_getElem? (i := 593) (by decide +kernel), List.mem_of_getElem? (i := 594) (by decide +kernel)⟩
theorem lw_p1 : lw_okq (⟨"ReadBound", "attempt", "(III)I"⟩, 19) := ⟨⟨by decide +kernel, by decide +kernel⟩, List.mem_of_getElem? (i := 25) (by decide +kernel), List.mem_of_getElem? (i := 665) (by decide +kernel), List.mem_of_getElem? (i := 666) (by decide +kernel)⟩
theorem lw_p2 : lw_okq (⟨"ReadBound", "isManAndLaw", "(II)Z"⟩, 19) := ⟨⟨by decide +kernel, by decide +kernel⟩, List.mem_of_getElem? (i := 25) (by decide +kernel), List.mem_of_getElem? (i := 759) (by decide +kernel), List.mem_of_getElem? (i := 760) (by decide +kernel)⟩
theorem lw_p3 : lw_okq (⟨"ReadBound", "areBits", "(II)Z"⟩, 19) := ⟨⟨by decide +kernel, by decide +kernel⟩, List.mem_of_getElem? (i := 25) (by decide +kernel), List.mem_of_getElem? (i := 807) (by decide +kernel), List.mem_of_getElem? (i := 808) (by decide +kernel)⟩
theorem lw_p4 : lw_okq (⟨"ReadBound", "menWhoHaveAll", "(II)I"⟩, 19) := ⟨⟨by decide +kernel, by decide +kernel⟩, List.mem_of_getElem? (i := 25) (by decide +kernel), List.mem_of_getElem? (i := 856) (by decide +kernel), List.mem_of_getElem? (i := 857) (by decide +kernel)⟩
theorem lw_p5 : lw_okq (⟨"ReadBound", "judge", "(LReadBound$Life;)I"⟩, 19) := ⟨⟨by decide +kernel, by decide +kernel⟩, List.mem_of_getElem? (i := 25) (by decide +kernel), List.mem_of_getElem? (i := 950) (by decide +kernel), List.mem_of_getElem? (i := 951) (by decide +kernel)⟩
theorem lw_p6 : lw_okq (⟨"ReadBound", "imageIn", "(I)LReadBound$Image;"⟩, 19) := ⟨⟨by decide +kernel, by decide +kernel⟩, List.mem_of_getElem? (i := 25) (by decide +kernel), List.mem_of_getElem? (i := 1032) (by decide +kernel), List.mem_of_getElem? (i := 1033) (by decide +kernel)⟩
theorem lw_p7 : lw_okq (⟨"java/lang/Throwable", "fillInStackTrace", "(I)Ljava/lang/Throwable;"⟩, 6) := ⟨⟨by decide +kernel, by decide +kernel⟩, List.mem_of_getElem? (i := 1096) (by decide +kernel), List.mem_of_getElem? (i := 1094) (by decide +kernel), List.mem_of_getElem? (i := 1095) (by decide +kernel)⟩
theorem lw_p8 : lw_okq (⟨"ReadBoundModel", "four", "(I)V"⟩, 45) := ⟨⟨by decide +kernel, by decide +kernel⟩, List.mem_of_getElem? (i := 1127) (by decide +kernel), List.mem_of_getElem? (i := 1125) (by decide +kernel), List.mem_of_getElem? (i := 1126) (by decide +kernel)⟩
theorem lw_p9 : lw_okq (⟨"ReadBoundModel", "taken", "(I)V"⟩, 45) := ⟨⟨by decide +kernel, by decide +kernel⟩, List.mem_of_getElem? (i := 1127) (by decide +kernel), List.mem_of_getElem? (i := 1309) (by decide +kernel), List.mem_of_getElem? (i := 1310) (by decide +kernel)⟩
theorem lw_p10 : lw_okq (⟨"ReadBoundModel", "skip", "()V"⟩, 45) := ⟨⟨by decide +kernel, by decide +kernel⟩, List.mem_of_getElem? (i := 1127) (by decide +kernel), List.mem_of_getElem? (i := 1313) (by decide +kernel), List.mem_of_getElem? (i := 1314) (by decide +kernel)⟩
theorem lw_p11 : lw_okq (⟨"ReadBoundModel", "peek", "()I"⟩, 45) := ⟨⟨by decide +kernel, by decide +kernel⟩, List.mem_of_getElem? (i := 1127) (by decide +kernel), List.mem_of_getElem? (i := 1317) (by decide +kernel), List.mem_of_getElem? (i := 1318) (by decide +kernel)⟩
theorem lw_p12 : lw_okq (⟨"ReadBoundModel", "line", "()Z"⟩, 45) := ⟨⟨by decide +kernel, by decide +kernel⟩, List.mem_of_getElem? (i := 1127) (by decide +kernel), List.mem_of_getElem? (i := 1327) (by decide +kernel), List.mem_of_getElem? (i := 1328) (by decide +kernel)⟩
theorem lw_p13 : lw_okq (⟨"ReadBoundModel", "isWord", "(J)Z"⟩, 45) := ⟨⟨by decide +kernel, by decide +kernel⟩, List.mem_of_getElem? (i := 1127) (by decide +kernel), List.mem_of_getElem? (i := 1331) (by decide +kernel), List.mem_of_getElem? (i := 1332) (by decide +kernel)⟩
theorem lw_p14 : lw_okq (⟨"ReadBoundModel", "bad", "(I)Z"⟩, 45) := ⟨⟨by decide +kernel, by decide +kernel⟩, List.mem_of_getElem? (i := 1127) (by decide +kernel), List.mem_of_getElem? (i := 1335) (by decide +kernel), List.mem_of_getElem? (i := 1336) (by decide +kernel)⟩
theorem lw_p15 : lw_okq (⟨"ReadBoundModel", "fresh", "(I)Z"⟩, 45) := ⟨⟨by decide +kernel, by decide +kernel⟩, List.mem_of_getElem? (i := 1127) (by decide +kernel), List.mem_of_getElem? (i := 1339) (by decide +kernel), List.mem_of_getElem? (i := 1340) (by decide +kernel)⟩
def lw_privs_1 : List (MethodName × Nat) := [(⟨"ReadBound", "isOne", "(II)Z"⟩, 19), (⟨"ReadBound", "attempt", "(III)I"⟩, 19), (⟨"ReadBound", "isManAndLaw", "(II)Z"⟩, 19), (⟨"ReadBound", "areBits", "(II)Z"⟩, 19), (⟨"ReadBound", "menWhoHaveAll", "(II)I"⟩, 19), (⟨"ReadBound", "judge", "(LReadBound$Life;)I"⟩, 19), (⟨"ReadBound", "imageIn", "(I)LReadBound$Image;"⟩, 19), (⟨"java/lang/Throwable", "fillInStackTrace", "(I)Ljava/lang/Throwable;"⟩, 6), (⟨"ReadBoundModel", "four", "(I)V"⟩, 45), (⟨"ReadBoundModel", "taken", "(I)V"⟩, 45), (⟨"ReadBoundModel", "skip", "()V"⟩, 45), (⟨"ReadBoundModel", "peek", "()I"⟩, 45), (⟨"ReadBoundModel", "line", "()Z"⟩, 45), (⟨"ReadBoundModel", "isWord", "(J)Z"⟩, 45), (⟨"ReadBoundModel", "bad", "(I)Z"⟩, 45), (⟨"ReadBoundModel", "fresh", "(I)Z"⟩, 45)]
theorem lw_r1 : ∀ q ∈ lw_privs_1, lw_okq q := List.forall_mem_cons.mpr ⟨lw_p0, List.forall_mem_cons.mpr ⟨lw_p1, List.forall_mem_cons.mpr ⟨lw_p2, List.forall_mem_cons.mpr ⟨lw_p3, List.forall_mem_cons.mpr ⟨lw_p4, List.forall_mem_cons.mpr ⟨lw_p5, List.forall_mem_cons.mpr ⟨lw_p6, List.forall_mem_cons.mpr ⟨lw_p7, List.forall_mem_cons.mpr ⟨lw_p8, List.forall_mem_cons.mpr ⟨lw_p9, List.forall_mem_cons.mpr ⟨lw_p10, List.forall_mem_cons.mpr ⟨lw_p11, List.forall_mem_cons.mpr ⟨lw_p12, List.forall_mem_cons.mpr ⟨lw_p13, List.forall_mem_cons.mpr ⟨lw_p14, List.forall_mem_cons.mpr ⟨lw_p15, fun _ h => absurd h List.not_mem_nil⟩⟩⟩⟩⟩⟩⟩⟩⟩⟩⟩⟩⟩⟩⟩⟩
theorem lw_p16 : lw_okq (⟨"ReadBoundModel", "isName", "()Z"⟩, 45) := ⟨⟨by decide +kernel, by decide +kernel⟩, List.mem_of_getElem? (i := 1127) (by decide +kernel), List.mem_of_getElem? (i := 1343) (by decide +kernel), List.mem_of_getElem? (i := 1344) (by decide +kernel)⟩
theorem lw_p17 : lw_okq (⟨"ReadBoundModel", "find", "(II)I"⟩, 45) := ⟨⟨by decide +kernel, by decide +kernel⟩, List.mem_of_getElem? (i := 1127) (by decide +kernel), List.mem_of_getElem? (i := 1347) (by decide +kernel), List.mem_of_getElem? (i := 1348) (by decide +kernel)⟩
theorem lw_p18 : lw_okq (⟨"ReadBoundModel", "readRoad", "()Z"⟩, 45) := ⟨⟨by decide +kernel, by decide +kernel⟩, List.mem_of_getElem? (i := 1127) (by decide +kernel), List.mem_of_getElem? (i := 1351) (by decide +kernel), List.mem_of_getElem? (i := 1352) (by decide +kernel)⟩
theorem lw_p19 : lw_okq (⟨"ReadBoundModel", "takesName", "(II)Z"⟩, 45) := ⟨⟨by decide +kernel, by decide +kernel⟩, List.mem_of_getElem? (i := 1127) (by decide +kernel), List.mem_of_getElem? (i := 1355) (by decide +kernel), List.mem_of_getElem? (i := 1356) (by decide +kernel)⟩
theorem lw_p20 : lw_okq (⟨"ReadBoundModel", "looksAt", "(II)Z"⟩, 45) := ⟨⟨by decide +kernel, by decide +kernel⟩, List.mem_of_getElem? (i := 1127) (by decide +kernel), List.mem_of_getElem? (i := 1359) (by decide +kernel), List.mem_of_getElem? (i := 1360) (by decide +kernel)⟩
theorem lw_p21 : lw_okq (⟨"ReadBoundModel", "readLaw", "(Z)Z"⟩, 45) := ⟨⟨by decide +kernel, by decide +kernel⟩, List.mem_of_getElem? (i := 1127) (by decide +kernel), List.mem_of_getElem? (i := 1366) (by decide +kernel), List.mem_of_getElem? (i := 1367) (by decide +kernel)⟩
theorem lw_p22 : lw_okq (⟨"ReadBoundModel", "puts", "(III)Z"⟩, 45) := ⟨⟨by decide +kernel, by decide +kernel⟩, List.mem_of_getElem? (i := 1127) (by decide +kernel), List.mem_of_getElem? (i := 1370) (by decide +kernel), List.mem_of_getElem? (i := 1371) (by decide +kernel)⟩
theorem lw_p23 : lw_okq (⟨"ReadBoundModel", "takes", "(II)Z"⟩, 45) := ⟨⟨by decide +kernel, by decide +kernel⟩, List.mem_of_getElem? (i := 1127) (by decide +kernel), List.mem_of_getElem? (i := 1374) (by decide +kernel), List.mem_of_getElem? (i := 1375) (by decide +kernel)⟩
theorem lw_p24 : lw_okq (⟨"ReadBoundModel", "isSign", "(I)Z"⟩, 45) := ⟨⟨by decide +kernel, by decide +kernel⟩, List.mem_of_getElem? (i := 1127) (by decide +kernel), List.mem_of_getElem? (i := 1381) (by decide +kernel), List.mem_of_getElem? (i := 1382) (by decide +kernel)⟩
theorem lw_p25 : lw_okq (⟨"ReadBoundModel", "readRound", "()Z"⟩, 45) := ⟨⟨by decide +kernel, by decide +kernel⟩, List.mem_of_getElem? (i := 1127) (by decide +kernel), List.mem_of_getElem? (i := 1385) (by decide +kernel), List.mem_of_getElem? (i := 1386) (by decide +kernel)⟩
theorem lw_p26 : lw_okq (⟨"ReadBoundModel", "sign", "(I)Z"⟩, 45) := ⟨⟨by decide +kernel, by decide +kernel⟩, List.mem_of_getElem? (i := 1127) (by decide +kernel), List.mem_of_getElem? (i := 1389) (by decide +kernel), List.mem_of_getElem? (i := 1390) (by decide +kernel)⟩
theorem lw_p27 : lw_okq (⟨"ReadBoundModel", "readsAll", "(I)V"⟩, 45) := ⟨⟨by decide +kernel, by decide +kernel⟩, List.mem_of_getElem? (i := 1127) (by decide +kernel), List.mem_of_getElem? (i := 1393) (by decide +kernel), List.mem_of_getElem? (i := 1394) (by decide +kernel)⟩
theorem lw_p28 : lw_okq (⟨"ReadBoundModel", "reads", "(II)V"⟩, 45) := ⟨⟨by decide +kernel, by decide +kernel⟩, List.mem_of_getElem? (i := 1127) (by decide +kernel), List.mem_of_getElem? (i := 1397) (by decide +kernel), List.mem_of_getElem? (i := 1398) (by decide +kernel)⟩
theorem lw_p29 : lw_okq (⟨"ReadBoundModel", "has", "(III)V"⟩, 45) := ⟨⟨by decide +kernel, by decide +kernel⟩, List.mem_of_getElem? (i := 1127) (by decide +kernel), List.mem_of_getElem? (i := 1407) (by decide +kernel), List.mem_of_getElem? (i := 1408) (by decide +kernel)⟩
theorem lw_p30 : lw_okq (⟨"ReadBoundModel", "isLaw", "(I)Z"⟩, 45) := ⟨⟨by decide +kernel, by decide +kernel⟩, List.mem_of_getElem? (i := 1127) (by decide +kernel), List.mem_of_getElem? (i := 1422) (by decide +kernel), List.mem_of_getElem? (i := 1423) (by decide +kernel)⟩
theorem lw_p31 : lw_okq (⟨"ReadBoundModel", "isMan", "(I)Z"⟩, 45) := ⟨⟨by decide +kernel, by decide +kernel⟩, List.mem_of_getElem? (i := 1127) (by decide +kernel), List.mem_of_getElem? (i := 1430) (by decide +kernel), List.mem_of_getElem? (i := 1431) (by decide +kernel)⟩
def lw_privs_2 : List (MethodName × Nat) := [(⟨"ReadBoundModel", "isName", "()Z"⟩, 45), (⟨"ReadBoundModel", "find", "(II)I"⟩, 45), (⟨"ReadBoundModel", "readRoad", "()Z"⟩, 45), (⟨"ReadBoundModel", "takesName", "(II)Z"⟩, 45), (⟨"ReadBoundModel", "looksAt", "(II)Z"⟩, 45), (⟨"ReadBoundModel", "readLaw", "(Z)Z"⟩, 45), (⟨"ReadBoundModel", "puts", "(III)Z"⟩, 45), (⟨"ReadBoundModel", "takes", "(II)Z"⟩, 45), (⟨"ReadBoundModel", "isSign", "(I)Z"⟩, 45), (⟨"ReadBoundModel", "readRound", "()Z"⟩, 45), (⟨"ReadBoundModel", "sign", "(I)Z"⟩, 45), (⟨"ReadBoundModel", "readsAll", "(I)V"⟩, 45), (⟨"ReadBoundModel", "reads", "(II)V"⟩, 45), (⟨"ReadBoundModel", "has", "(III)V"⟩, 45), (⟨"ReadBoundModel", "isLaw", "(I)Z"⟩, 45), (⟨"ReadBoundModel", "isMan", "(I)Z"⟩, 45)]
theorem lw_r2 : ∀ q ∈ lw_privs_2, lw_okq q := List.forall_mem_cons.mpr ⟨lw_p16, List.forall_mem_cons.mpr ⟨lw_p17, List.forall_mem_cons.mpr ⟨lw_p18, List.forall_mem_cons.mpr ⟨lw_p19, List.forall_mem_cons.mpr ⟨lw_p20, List.forall_mem_cons.mpr ⟨lw_p21, List.forall_mem_cons.mpr ⟨lw_p22, List.forall_mem_cons.mpr ⟨lw_p23, List.forall_mem_cons.mpr ⟨lw_p24, List.forall_mem_cons.mpr ⟨lw_p25, List.forall_mem_cons.mpr ⟨lw_p26, List.forall_mem_cons.mpr ⟨lw_p27, List.forall_mem_cons.mpr ⟨lw_p28, List.forall_mem_cons.mpr ⟨lw_p29, List.forall_mem_cons.mpr ⟨lw_p30, List.forall_mem_cons.mpr ⟨lw_p31, fun _ h => absurd h List.not_mem_nil⟩⟩⟩⟩⟩⟩⟩⟩⟩⟩⟩⟩⟩⟩⟩⟩
theorem lw_p32 : lw_okq (⟨"ReadBoundModel", "throwsIf", "(Z)Z"⟩, 45) := ⟨⟨by decide +kernel, by decide +kernel⟩, List.mem_of_getElem? (i := 1127) (by decide +kernel), List.mem_of_getElem? (i := 1434) (by decide +kernel), List.mem_of_getElem? (i := 1435) (by decide +kernel)⟩
theorem lw_p33 : lw_okq (⟨"ReadBoundModel", "isPlace", "(I)Z"⟩, 45) := ⟨⟨by decide +kernel, by decide +kernel⟩, List.mem_of_getElem? (i := 1127) (by decide +kernel), List.mem_of_getElem? (i := 1442) (by decide +kernel), List.mem_of_getElem? (i := 1443) (by decide +kernel)⟩
theorem lw_p34 : lw_okq (⟨"ReadBoundModel", "freeMen", "()I"⟩, 45) := ⟨⟨by decide +kernel, by decide +kernel⟩, List.mem_of_getElem? (i := 1127) (by decide +kernel), List.mem_of_getElem? (i := 1453) (by decide +kernel), List.mem_of_getElem? (i := 1454) (by decide +kernel)⟩
theorem lw_p35 : lw_okq (⟨"ReadBoundModel", "bindsOf", "(I)I"⟩, 45) := ⟨⟨by decide +kernel, by decide +kernel⟩, List.mem_of_getElem? (i := 1127) (by decide +kernel), List.mem_of_getElem? (i := 1457) (by decide +kernel), List.mem_of_getElem? (i := 1458) (by decide +kernel)⟩
theorem lw_p36 : lw_okq (⟨"ReadBoundModel", "doesBind", "(II)Z"⟩, 45) := ⟨⟨by decide +kernel, by decide +kernel⟩, List.mem_of_getElem? (i := 1127) (by decide +kernel), List.mem_of_getElem? (i := 1461) (by decide +kernel), List.mem_of_getElem? (i := 1462) (by decide +kernel)⟩
theorem lw_p37 : lw_okq (⟨"ReadBoundModel", "stateOf", "(II)I"⟩, 45) := ⟨⟨by decide +kernel, by decide +kernel⟩, List.mem_of_getElem? (i := 1127) (by decide +kernel), List.mem_of_getElem? (i := 1465) (by decide +kernel), List.mem_of_getElem? (i := 1466) (by decide +kernel)⟩
theorem lw_p38 : lw_okq (⟨"ReadBoundModel", "isRepealed", "(II)Z"⟩, 45) := ⟨⟨by decide +kernel, by decide +kernel⟩, List.mem_of_getElem? (i := 1127) (by decide +kernel), List.mem_of_getElem? (i := 1469) (by decide +kernel), List.mem_of_getElem? (i := 1470) (by decide +kernel)⟩
theorem lw_p39 : lw_okq (⟨"ReadBoundModel", "whyGo", "(II)I"⟩, 45) := ⟨⟨by decide +kernel, by decide +kernel⟩, List.mem_of_getElem? (i := 1127) (by decide +kernel), List.mem_of_getElem? (i := 1477) (by decide +kernel), List.mem_of_getElem? (i := 1478) (by decide +kernel)⟩
theorem lw_p40 : lw_okq (⟨"ReadBoundModel", "keep", "()V"⟩, 45) := ⟨⟨by decide +kernel, by decide +kernel⟩, List.mem_of_getElem? (i := 1127) (by decide +kernel), List.mem_of_getElem? (i := 1481) (by decide +kernel), List.mem_of_getElem? (i := 1482) (by decide +kernel)⟩
theorem lw_p41 : lw_okq (⟨"ReadBoundModel", "goes", "(II)V"⟩, 45) := ⟨⟨by decide +kernel, by decide +kernel⟩, List.mem_of_getElem? (i := 1127) (by decide +kernel), List.mem_of_getElem? (i := 1485) (by decide +kernel), List.mem_of_getElem? (i := 1486) (by decide +kernel)⟩
theorem lw_p42 : lw_okq (⟨"ReadBoundModel", "comes", "(II)V"⟩, 45) := ⟨⟨by decide +kernel, by decide +kernel⟩, List.mem_of_getElem? (i := 1127) (by decide +kernel), List.mem_of_getElem? (i := 1489) (by decide +kernel), List.mem_of_getElem? (i := 1490) (by decide +kernel)⟩
theorem lw_p43 : lw_okq (⟨"ReadBoundModel", "isDeed", "(I)Z"⟩, 45) := ⟨⟨by decide +kernel, by decide +kernel⟩, List.mem_of_getElem? (i := 1127) (by decide +kernel), List.mem_of_getElem? (i := 1497) (by decide +kernel), List.mem_of_getElem? (i := 1498) (by decide +kernel)⟩
theorem lw_p44 : lw_okq (⟨"ReadBoundModel", "whyAct", "(II)I"⟩, 45) := ⟨⟨by decide +kernel, by decide +kernel⟩, List.mem_of_getElem? (i := 1127) (by decide +kernel), List.mem_of_getElem? (i := 1501) (by decide +kernel), List.mem_of_getElem? (i := 1502) (by decide +kernel)⟩
theorem lw_p45 : lw_okq (⟨"ReadBoundModel", "barredOf", "(I)I"⟩, 45) := ⟨⟨by decide +kernel, by decide +kernel⟩, List.mem_of_getElem? (i := 1127) (by decide +kernel), List.mem_of_getElem? (i := 1505) (by decide +kernel), List.mem_of_getElem? (i := 1506) (by decide +kernel)⟩
theorem lw_p46 : lw_okq (⟨"ReadBoundModel", "forbiddenBy", "(I)I"⟩, 45) := ⟨⟨by decide +kernel, by decide +kernel⟩, List.mem_of_getElem? (i := 1127) (by decide +kernel), List.mem_of_getElem? (i := 1509) (by decide +kernel), List.mem_of_getElem? (i := 1510) (by decide +kernel)⟩
theorem lw_p47 : lw_okq (⟨"ReadBoundModel", "acts", "(I)V"⟩, 45) := ⟨⟨by decide +kernel, by decide +kernel⟩, List.mem_of_getElem? (i := 1127) (by decide +kernel), List.mem_of_getElem? (i := 1513) (by decide +kernel), List.mem_of_getElem? (i := 1514) (by decide +kernel)⟩
def lw_privs_3 : List (MethodName × Nat) := [(⟨"ReadBoundModel", "throwsIf", "(Z)Z"⟩, 45), (⟨"ReadBoundModel", "isPlace", "(I)Z"⟩, 45), (⟨"ReadBoundModel", "freeMen", "()I"⟩, 45), (⟨"ReadBoundModel", "bindsOf", "(I)I"⟩, 45), (⟨"ReadBoundModel", "doesBind", "(II)Z"⟩, 45), (⟨"ReadBoundModel", "stateOf", "(II)I"⟩, 45), (⟨"ReadBoundModel", "isRepealed", "(II)Z"⟩, 45), (⟨"ReadBoundModel", "whyGo", "(II)I"⟩, 45), (⟨"ReadBoundModel", "keep", "()V"⟩, 45), (⟨"ReadBoundModel", "goes", "(II)V"⟩, 45), (⟨"ReadBoundModel", "comes", "(II)V"⟩, 45), (⟨"ReadBoundModel", "isDeed", "(I)Z"⟩, 45), (⟨"ReadBoundModel", "whyAct", "(II)I"⟩, 45), (⟨"ReadBoundModel", "barredOf", "(I)I"⟩, 45), (⟨"ReadBoundModel", "forbiddenBy", "(I)I"⟩, 45), (⟨"ReadBoundModel", "acts", "(I)V"⟩, 45)]
theorem lw_r3 : ∀ q ∈ lw_privs_3, lw_okq q := List.forall_mem_cons.mpr ⟨lw_p32, List.forall_mem_cons.mpr ⟨lw_p33, List.forall_mem_cons.mpr ⟨lw_p34, List.forall_mem_cons.mpr ⟨lw_p35, List.forall_mem_cons.mpr ⟨lw_p36, List.forall_mem_cons.mpr ⟨lw_p37, List.forall_mem_cons.mpr ⟨lw_p38, List.forall_mem_cons.mpr ⟨lw_p39, List.forall_mem_cons.mpr ⟨lw_p40, List.forall_mem_cons.mpr ⟨lw_p41, List.forall_mem_cons.mpr ⟨lw_p42, List.forall_mem_cons.mpr ⟨lw_p43, List.forall_mem_cons.mpr ⟨lw_p44, List.forall_mem_cons.mpr ⟨lw_p45, List.forall_mem_cons.mpr ⟨lw_p46, List.forall_mem_cons.mpr ⟨lw_p47, fun _ h => absurd h List.not_mem_nil⟩⟩⟩⟩⟩⟩⟩⟩⟩⟩⟩⟩⟩⟩⟩⟩
theorem lw_p48 : lw_okq (⟨"ReadBoundModel", "whyWear", "(II)I"⟩, 45) := ⟨⟨by decide +kernel, by decide +kernel⟩, List.mem_of_getElem? (i := 1127) (by decide +kernel), List.mem_of_getElem? (i := 1521) (by decide +kernel), List.mem_of_getElem? (i := 1522) (by decide +kernel)⟩
theorem lw_p49 : lw_okq (⟨"ReadBoundModel", "wears", "(II)V"⟩, 45) := ⟨⟨by decide +kernel, by decide +kernel⟩, List.mem_of_getElem? (i := 1127) (by decide +kernel), List.mem_of_getElem? (i := 1525) (by decide +kernel), List.mem_of_getElem? (i := 1526) (by decide +kernel)⟩
theorem lw_p50 : lw_okq (⟨"ReadBoundModel", "whyFever", "(I)I"⟩, 45) := ⟨⟨by decide +kernel, by decide +kernel⟩, List.mem_of_getElem? (i := 1127) (by decide +kernel), List.mem_of_getElem? (i := 1533) (by decide +kernel), List.mem_of_getElem? (i := 1534) (by decide +kernel)⟩
theorem lw_p51 : lw_okq (⟨"ReadBoundModel", "wordsOf", "(I)I"⟩, 45) := ⟨⟨by decide +kernel, by decide +kernel⟩, List.mem_of_getElem? (i := 1127) (by decide +kernel), List.mem_of_getElem? (i := 1537) (by decide +kernel), List.mem_of_getElem? (i := 1538) (by decide +kernel)⟩
theorem lw_p52 : lw_okq (⟨"ReadBoundModel", "fevers", "(I)V"⟩, 45) := ⟨⟨by decide +kernel, by decide +kernel⟩, List.mem_of_getElem? (i := 1127) (by decide +kernel), List.mem_of_getElem? (i := 1541) (by decide +kernel), List.mem_of_getElem? (i := 1542) (by decide +kernel)⟩
theorem lw_p53 : lw_okq (⟨"ReadBoundModel", "whyPost", "(II)I"⟩, 45) := ⟨⟨by decide +kernel, by decide +kernel⟩, List.mem_of_getElem? (i := 1127) (by decide +kernel), List.mem_of_getElem? (i := 1549) (by decide +kernel), List.mem_of_getElem? (i := 1550) (by decide +kernel)⟩
theorem lw_p54 : lw_okq (⟨"ReadBoundModel", "putsUp", "(II)V"⟩, 45) := ⟨⟨by decide +kernel, by decide +kernel⟩, List.mem_of_getElem? (i := 1127) (by decide +kernel), List.mem_of_getElem? (i := 1553) (by decide +kernel), List.mem_of_getElem? (i := 1554) (by decide +kernel)⟩
theorem lw_p55 : lw_okq (⟨"ReadBoundModel", "whyRain", "(I)I"⟩, 45) := ⟨⟨by decide +kernel, by decide +kernel⟩, List.mem_of_getElem? (i := 1127) (by decide +kernel), List.mem_of_getElem? (i := 1561) (by decide +kernel), List.mem_of_getElem? (i := 1562) (by decide +kernel)⟩
theorem lw_p56 : lw_okq (⟨"ReadBoundModel", "rains", "(I)V"⟩, 45) := ⟨⟨by decide +kernel, by decide +kernel⟩, List.mem_of_getElem? (i := 1127) (by decide +kernel), List.mem_of_getElem? (i := 1565) (by decide +kernel), List.mem_of_getElem? (i := 1566) (by decide +kernel)⟩
theorem lw_p57 : lw_okq (⟨"ReadBoundModel", "goesOn", "(I)I"⟩, 45) := ⟨⟨by decide +kernel, by decide +kernel⟩, List.mem_of_getElem? (i := 1127) (by decide +kernel), List.mem_of_getElem? (i := 1573) (by decide +kernel), List.mem_of_getElem? (i := 1574) (by decide +kernel)⟩
theorem lw_p58 : lw_okq (⟨"ReadBoundModel", "day", "()V"⟩, 45) := ⟨⟨by decide +kernel, by decide +kernel⟩, List.mem_of_getElem? (i := 1127) (by decide +kernel), List.mem_of_getElem? (i := 1577) (by decide +kernel), List.mem_of_getElem? (i := 1578) (by decide +kernel)⟩
theorem lw_p59 : lw_okq (⟨"ReadBoundModel", "walks", "(I)V"⟩, 45) := ⟨⟨by decide +kernel, by decide +kernel⟩, List.mem_of_getElem? (i := 1127) (by decide +kernel), List.mem_of_getElem? (i := 1581) (by decide +kernel), List.mem_of_getElem? (i := 1582) (by decide +kernel)⟩
theorem lw_p60 : lw_okq (⟨"ReadBoundModel", "wayOf", "(III)I"⟩, 45) := ⟨⟨by decide +kernel, by decide +kernel⟩, List.mem_of_getElem? (i := 1127) (by decide +kernel), List.mem_of_getElem? (i := 1625) (by decide +kernel), List.mem_of_getElem? (i := 1626) (by decide +kernel)⟩
theorem lw_p61 : lw_okq (⟨"ReadBoundModel", "canEnter", "(II)Z"⟩, 45) := ⟨⟨by decide +kernel, by decide +kernel⟩, List.mem_of_getElem? (i := 1127) (by decide +kernel), List.mem_of_getElem? (i := 1629) (by decide +kernel), List.mem_of_getElem? (i := 1630) (by decide +kernel)⟩
theorem lw_p62 : lw_okq (⟨"ReadBoundModel", "tries", "()V"⟩, 45) := ⟨⟨by decide +kernel, by decide +kernel⟩, List.mem_of_getElem? (i := 1127) (by decide +kernel), List.mem_of_getElem? (i := 1645) (by decide +kernel), List.mem_of_getElem? (i := 1646) (by decide +kernel)⟩
theorem lw_p63 : lw_okq (⟨"ReadBoundModel", "isUnread", "(III)Z"⟩, 45) := ⟨⟨by decide +kernel, by decide +kernel⟩, List.mem_of_getElem? (i := 1127) (by decide +kernel), List.mem_of_getElem? (i := 1649) (by decide +kernel), List.mem_of_getElem? (i := 1650) (by decide +kernel)⟩
def lw_privs_4 : List (MethodName × Nat) := [(⟨"ReadBoundModel", "whyWear", "(II)I"⟩, 45), (⟨"ReadBoundModel", "wears", "(II)V"⟩, 45), (⟨"ReadBoundModel", "whyFever", "(I)I"⟩, 45), (⟨"ReadBoundModel", "wordsOf", "(I)I"⟩, 45), (⟨"ReadBoundModel", "fevers", "(I)V"⟩, 45), (⟨"ReadBoundModel", "whyPost", "(II)I"⟩, 45), (⟨"ReadBoundModel", "putsUp", "(II)V"⟩, 45), (⟨"ReadBoundModel", "whyRain", "(I)I"⟩, 45), (⟨"ReadBoundModel", "rains", "(I)V"⟩, 45), (⟨"ReadBoundModel", "goesOn", "(I)I"⟩, 45), (⟨"ReadBoundModel", "day", "()V"⟩, 45), (⟨"ReadBoundModel", "walks", "(I)V"⟩, 45), (⟨"ReadBoundModel", "wayOf", "(III)I"⟩, 45), (⟨"ReadBoundModel", "canEnter", "(II)Z"⟩, 45), (⟨"ReadBoundModel", "tries", "()V"⟩, 45), (⟨"ReadBoundModel", "isUnread", "(III)Z"⟩, 45)]
theorem lw_r4 : ∀ q ∈ lw_privs_4, lw_okq q := List.forall_mem_cons.mpr ⟨lw_p48, List.forall_mem_cons.mpr ⟨lw_p49, List.forall_mem_cons.mpr ⟨lw_p50, List.forall_mem_cons.mpr ⟨lw_p51, List.forall_mem_cons.mpr ⟨lw_p52, List.forall_mem_cons.mpr ⟨lw_p53, List.forall_mem_cons.mpr ⟨lw_p54, List.forall_mem_cons.mpr ⟨lw_p55, List.forall_mem_cons.mpr ⟨lw_p56, List.forall_mem_cons.mpr ⟨lw_p57, List.forall_mem_cons.mpr ⟨lw_p58, List.forall_mem_cons.mpr ⟨lw_p59, List.forall_mem_cons.mpr ⟨lw_p60, List.forall_mem_cons.mpr ⟨lw_p61, List.forall_mem_cons.mpr ⟨lw_p62, List.forall_mem_cons.mpr ⟨lw_p63, fun _ h => absurd h List.not_mem_nil⟩⟩⟩⟩⟩⟩⟩⟩⟩⟩⟩⟩⟩⟩⟩⟩
theorem lw_p64 : lw_okq (⟨"ReadBoundModel", "back", "()V"⟩, 45) := ⟨⟨by decide +kernel, by decide +kernel⟩, List.mem_of_getElem? (i := 1127) (by decide +kernel), List.mem_of_getElem? (i := 1653) (by decide +kernel), List.mem_of_getElem? (i := 1654) (by decide +kernel)⟩
theorem lw_p65 : lw_okq (⟨"ReadBoundModel", "readersOf", "(I)I"⟩, 45) := ⟨⟨by decide +kernel, by decide +kernel⟩, List.mem_of_getElem? (i := 1127) (by decide +kernel), List.mem_of_getElem? (i := 1661) (by decide +kernel), List.mem_of_getElem? (i := 1662) (by decide +kernel)⟩
theorem lw_p66 : lw_okq (⟨"ReadBoundModel", "draws", "(II)I"⟩, 45) := ⟨⟨by decide +kernel, by decide +kernel⟩, List.mem_of_getElem? (i := 1127) (by decide +kernel), List.mem_of_getElem? (i := 1685) (by decide +kernel), List.mem_of_getElem? (i := 1686) (by decide +kernel)⟩
theorem lw_p67 : lw_okq (⟨"ReadBoundModel", "draw", "(I)I"⟩, 45) := ⟨⟨by decide +kernel, by decide +kernel⟩, List.mem_of_getElem? (i := 1127) (by decide +kernel), List.mem_of_getElem? (i := 1689) (by decide +kernel), List.mem_of_getElem? (i := 1690) (by decide +kernel)⟩
theorem lw_p68 : lw_okq (⟨"ReadBoundModel", "bookLine", "()Z"⟩, 45) := ⟨⟨by decide +kernel, by decide +kernel⟩, List.mem_of_getElem? (i := 1127) (by decide +kernel), List.mem_of_getElem? (i := 1702) (by decide +kernel), List.mem_of_getElem? (i := 1703) (by decide +kernel)⟩
theorem lw_p69 : lw_okq (⟨"ReadBoundModel", "putsName", "(III)Z"⟩, 45) := ⟨⟨by decide +kernel, by decide +kernel⟩, List.mem_of_getElem? (i := 1127) (by decide +kernel), List.mem_of_getElem? (i := 1706) (by decide +kernel), List.mem_of_getElem? (i := 1707) (by decide +kernel)⟩
theorem lw_p70 : lw_okq (⟨"ReadBoundModel", "whyLine", "(III)I"⟩, 45) := ⟨⟨by decide +kernel, by decide +kernel⟩, List.mem_of_getElem? (i := 1127) (by decide +kernel), List.mem_of_getElem? (i := 1710) (by decide +kernel), List.mem_of_getElem? (i := 1711) (by decide +kernel)⟩
theorem lw_p71 : lw_okq (⟨"ReadBoundModel", "livesLine", "(III)V"⟩, 45) := ⟨⟨by decide +kernel, by decide +kernel⟩, List.mem_of_getElem? (i := 1127) (by decide +kernel), List.mem_of_getElem? (i := 1714) (by decide +kernel), List.mem_of_getElem? (i := 1715) (by decide +kernel)⟩
theorem lw_p72 : lw_okq (⟨"ReadBoundModel", "nots", "()V"⟩, 45) := ⟨⟨by decide +kernel, by decide +kernel⟩, List.mem_of_getElem? (i := 1127) (by decide +kernel), List.mem_of_getElem? (i := 1726) (by decide +kernel), List.mem_of_getElem? (i := 1727) (by decide +kernel)⟩
theorem lw_p73 : lw_okq (⟨"ReadBoundModel", "code", "(III)V"⟩, 45) := ⟨⟨by decide +kernel, by decide +kernel⟩, List.mem_of_getElem? (i := 1127) (by decide +kernel), List.mem_of_getElem? (i := 1730) (by decide +kernel), List.mem_of_getElem? (i := 1731) (by decide +kernel)⟩
theorem lw_p74 : lw_okq (⟨"ReadBoundModel", "joins", "(I)V"⟩, 45) := ⟨⟨by decide +kernel, by decide +kernel⟩, List.mem_of_getElem? (i := 1127) (by decide +kernel), List.mem_of_getElem? (i := 1734) (by decide +kernel), List.mem_of_getElem? (i := 1735) (by decide +kernel)⟩
theorem lw_p75 : lw_okq (⟨"ReadBoundModel", "behind", "()Z"⟩, 45) := ⟨⟨by decide +kernel, by decide +kernel⟩, List.mem_of_getElem? (i := 1127) (by decide +kernel), List.mem_of_getElem? (i := 1738) (by decide +kernel), List.mem_of_getElem? (i := 1739) (by decide +kernel)⟩
theorem lw_p76 : lw_okq (⟨"ReadBoundModel", "operand", "()Z"⟩, 45) := ⟨⟨by decide +kernel, by decide +kernel⟩, List.mem_of_getElem? (i := 1127) (by decide +kernel), List.mem_of_getElem? (i := 1742) (by decide +kernel), List.mem_of_getElem? (i := 1743) (by decide +kernel)⟩
theorem lw_p77 : lw_okq (⟨"ReadBoundModel", "leafOf", "()I"⟩, 45) := ⟨⟨by decide +kernel, by decide +kernel⟩, List.mem_of_getElem? (i := 1127) (by decide +kernel), List.mem_of_getElem? (i := 1746) (by decide +kernel), List.mem_of_getElem? (i := 1747) (by decide +kernel)⟩
theorem lw_p78 : lw_okq (⟨"ReadBoundModel", "isSaid", "(I)Z"⟩, 45) := ⟨⟨by decide +kernel, by decide +kernel⟩, List.mem_of_getElem? (i := 1127) (by decide +kernel), List.mem_of_getElem? (i := 1754) (by decide +kernel), List.mem_of_getElem? (i := 1755) (by decide +kernel)⟩
theorem lw_p79 : lw_okq (⟨"ReadBoundModel", "isLeaf", "(IIII)Z"⟩, 45) := ⟨⟨by decide +kernel, by decide +kernel⟩, List.mem_of_getElem? (i := 1127) (by decide +kernel), List.mem_of_getElem? (i := 1758) (by decide +kernel), List.mem_of_getElem? (i := 1759) (by decide +kernel)⟩
def lw_privs_5 : List (MethodName × Nat) := [(⟨"ReadBoundModel", "back", "()V"⟩, 45), (⟨"ReadBoundModel", "readersOf", "(I)I"⟩, 45), (⟨"ReadBoundModel", "draws", "(II)I"⟩, 45), (⟨"ReadBoundModel", "draw", "(I)I"⟩, 45), (⟨"ReadBoundModel", "bookLine", "()Z"⟩, 45), (⟨"ReadBoundModel", "putsName", "(III)Z"⟩, 45), (⟨"ReadBoundModel", "whyLine", "(III)I"⟩, 45), (⟨"ReadBoundModel", "livesLine", "(III)V"⟩, 45), (⟨"ReadBoundModel", "nots", "()V"⟩, 45), (⟨"ReadBoundModel", "code", "(III)V"⟩, 45), (⟨"ReadBoundModel", "joins", "(I)V"⟩, 45), (⟨"ReadBoundModel", "behind", "()Z"⟩, 45), (⟨"ReadBoundModel", "operand", "()Z"⟩, 45), (⟨"ReadBoundModel", "leafOf", "()I"⟩, 45), (⟨"ReadBoundModel", "isSaid", "(I)Z"⟩, 45), (⟨"ReadBoundModel", "isLeaf", "(IIII)Z"⟩, 45)]
theorem lw_r5 : ∀ q ∈ lw_privs_5, lw_okq q := List.forall_mem_cons.mpr ⟨lw_p64, List.forall_mem_cons.mpr ⟨lw_p65, List.forall_mem_cons.mpr ⟨lw_p66, List.forall_mem_cons.mpr ⟨lw_p67, List.forall_mem_cons.mpr ⟨lw_p68, List.forall_mem_cons.mpr ⟨lw_p69, List.forall_mem_cons.mpr ⟨lw_p70, List.forall_mem_cons.mpr ⟨lw_p71, List.forall_mem_cons.mpr ⟨lw_p72, List.forall_mem_cons.mpr ⟨lw_p73, List.forall_mem_cons.mpr ⟨lw_p74, List.forall_mem_cons.mpr ⟨lw_p75, List.forall_mem_cons.mpr ⟨lw_p76, List.forall_mem_cons.mpr ⟨lw_p77, List.forall_mem_cons.mpr ⟨lw_p78, List.forall_mem_cons.mpr ⟨lw_p79, fun _ h => absurd h List.not_mem_nil⟩⟩⟩⟩⟩⟩⟩⟩⟩⟩⟩⟩⟩⟩⟩⟩
def lw_privs : List (MethodName × Nat) := lw_privs_1 ++ (lw_privs_2 ++ (lw_privs_3 ++ (lw_privs_4 ++ (lw_privs_5))))
def lw_tbl : List Cond := k2_sels lw_privs ++ tables_1
theorem lw_privs_ok : ∀ q ∈ lw_privs, lw_okq q := by
  show ∀ q ∈ lw_privs_1 ++ (lw_privs_2 ++ (lw_privs_3 ++ (lw_privs_4 ++ (lw_privs_5)))), lw_okq q
  exact List.forall_mem_append.mpr ⟨lw_r1, List.forall_mem_append.mpr ⟨lw_r2, List.forall_mem_append.mpr ⟨lw_r3, List.forall_mem_append.mpr ⟨lw_r4, lw_r5⟩⟩⟩⟩

/-! ===== BEGIN words of one list among another's, by their places ===== -/
theorem goodIn_r {big : List Cond} (ws : List Cond) (ps : List Nat) (hp : ws = ps.filterMap (fun i => big[i]?)) (h : ws.all goodWord = true) : GoodIn big ws := by
  intro w hw
  have h1 := List.all_eq_true.mp h w hw
  rw [hp] at hw
  obtain ⟨i, -, hi⟩ := List.mem_filterMap.mp hw
  have hm : w ∈ big := by first | exact List.mem_of_getElem? hi | exact List.getElem?_mem hi
  exact ⟨hm, good_of_word h1⟩
theorem goodIn_app {big a b : List Cond} (ha : GoodIn big a) (hb : GoodIn big b) : GoodIn big (a ++ b) := fun w h => (List.mem_append.mp h).elim (ha w) (hb w)
theorem goodIn_ca {big a b : List Cond} {c : Cond} (ha : GoodIn big (c :: a)) (hb : GoodIn big b) : GoodIn big (c :: (a ++ b)) := fun w h => (List.mem_cons.mp h).elim (fun e => ha w (List.mem_cons.mpr (Or.inl e))) (fun h => (List.mem_append.mp h).elim (fun h => ha w (List.mem_cons.mpr (Or.inr h))) (hb w))
theorem goodIn_sub {big ws : List Cond} (hm : ∀ w ∈ ws, w ∈ big) (h : ws.all goodWord = true) : GoodIn big ws := fun w hw => ⟨hm w hw, good_of_word (List.all_eq_true.mp h w hw)⟩
/-! ===== END ===== -/


def RX0 : String := "ReadBound$Diary"
def TX0 : u_T := fun k => match k with
  | 0 => ("ReadBound$Diary", "tokens", "LReadBound$Tokens;", true)
  | 1 => ("ReadBound$Diary", "land", "LReadBound$Land;", true)
  | 2 => ("ReadBound$Diary", "whats", "[I", true)
  | 3 => ("ReadBound$Diary", "firsts", "[I", true)
  | 4 => ("ReadBound$Diary", "seconds", "[I", true)
  | _ => ("ReadBound$Diary", "lines", "I", false)
def tyX0 : Nat → FieldType := fun k => match k with
  | 0 => .object "ReadBound$Tokens"
  | 1 => .object "ReadBound$Land"
  | 2 => .array .int
  | 3 => .array .int
  | 4 => .array .int
  | _ => .int
abbrev wsX00 : List Cond := u_ws RX0 TX0 6
theorem nmX0 : ∀ a, a < 6 → ∀ b, b < 6 → a ≠ b → (TX0 a).2.1 ≠ (TX0 b).2.1 := by decide +kernel
theorem tyX0_ok : ∀ k, k < 6 → parseFieldDescriptor (TX0 k).2.2.1 = some (tyX0 k) := by decide +kernel

theorem inX0 : ∀ w ∈ wsX00, w ∈ lw_tbl := by decide +kernel

def RX1 : String := "ReadBound$Image"
def TX1 : u_T := fun k => match k with
  | 0 => ("ReadBound$Image", "land", "LReadBound$Land;", true)
  | 1 => ("ReadBound$Image", "life", "LReadBound$Life;", true)
  | 2 => ("ReadBound$Image", "sentence", "LReadBound$Sentence;", true)
  | _ => ("ReadBound$Image", "kept", "Z", false)
def tyX1 : Nat → FieldType := fun k => match k with
  | 0 => .object "ReadBound$Land"
  | 1 => .object "ReadBound$Life"
  | 2 => .object "ReadBound$Sentence"
  | _ => .boolean
abbrev wsX10 : List Cond := u_ws RX1 TX1 4
theorem nmX1 : ∀ a, a < 4 → ∀ b, b < 4 → a ≠ b → (TX1 a).2.1 ≠ (TX1 b).2.1 := by decide +kernel
theorem tyX1_ok : ∀ k, k < 4 → parseFieldDescriptor (TX1 k).2.2.1 = some (tyX1 k) := by decide +kernel

theorem inX1 : ∀ w ∈ wsX10, w ∈ lw_tbl := by decide +kernel

def RX2 : String := "ReadBound$Land"
def TX2 : u_T := fun k => match k with
  | 0 => ("ReadBound$Land", "facts", "[I", true)
  | _ => ("ReadBound$Land", "names", "[J", true)
def tyX2 : Nat → FieldType := fun k => match k with
  | 0 => .array .int
  | _ => .array .long
abbrev wsX20 : List Cond := u_ws RX2 TX2 2
theorem nmX2 : ∀ a, a < 2 → ∀ b, b < 2 → a ≠ b → (TX2 a).2.1 ≠ (TX2 b).2.1 := by decide +kernel
theorem tyX2_ok : ∀ k, k < 2 → parseFieldDescriptor (TX2 k).2.2.1 = some (tyX2 k) := by decide +kernel

theorem inX2 : ∀ w ∈ wsX20, w ∈ lw_tbl := by decide +kernel

def RX3 : String := "ReadBound$LandReader"
def TX3 : u_T := fun k => match k with
  | 0 => ("ReadBound$LandReader", "tokens", "LReadBound$Tokens;", true)
  | _ => ("ReadBound$LandReader", "land", "LReadBound$Land;", true)
def tyX3 : Nat → FieldType := fun k => match k with
  | 0 => .object "ReadBound$Tokens"
  | _ => .object "ReadBound$Land"
abbrev wsX30 : List Cond := u_ws RX3 TX3 2
theorem nmX3 : ∀ a, a < 2 → ∀ b, b < 2 → a ≠ b → (TX3 a).2.1 ≠ (TX3 b).2.1 := by decide +kernel
theorem tyX3_ok : ∀ k, k < 2 → parseFieldDescriptor (TX3 k).2.2.1 = some (tyX3 k) := by decide +kernel

theorem inX3 : ∀ w ∈ wsX30, w ∈ lw_tbl := by decide +kernel

def RX4 : String := "ReadBound$Life"
def TX4 : u_T := fun k => match k with
  | 0 => ("ReadBound$Life", "facts", "[I", true)
  | 1 => ("ReadBound$Life", "cells", "[I", true)
  | _ => ("ReadBound$Life", "seed", "I", false)
def tyX4 : Nat → FieldType := fun k => match k with
  | 0 => .array .int
  | 1 => .array .int
  | _ => .int
abbrev wsX40 : List Cond := u_ws RX4 TX4 3
theorem nmX4 : ∀ a, a < 3 → ∀ b, b < 3 → a ≠ b → (TX4 a).2.1 ≠ (TX4 b).2.1 := by decide +kernel
theorem tyX4_ok : ∀ k, k < 3 → parseFieldDescriptor (TX4 k).2.2.1 = some (tyX4 k) := by decide +kernel

theorem inX4 : ∀ w ∈ wsX40, w ∈ lw_tbl := by decide +kernel

def RX5 : String := "ReadBound$Past"
def TX5 : u_T := fun k => match k with
  | 0 => ("ReadBound$Past", "kept", "[I", true)
  | 1 => ("ReadBound$Past", "next", "I", false)
  | _ => ("ReadBound$Past", "count", "I", false)
def tyX5 : Nat → FieldType := fun k => match k with
  | 0 => .array .int
  | 1 => .int
  | _ => .int
abbrev wsX50 : List Cond := u_ws RX5 TX5 3
theorem nmX5 : ∀ a, a < 3 → ∀ b, b < 3 → a ≠ b → (TX5 a).2.1 ≠ (TX5 b).2.1 := by decide +kernel
theorem tyX5_ok : ∀ k, k < 3 → parseFieldDescriptor (TX5 k).2.2.1 = some (tyX5 k) := by decide +kernel

theorem inX5 : ∀ w ∈ wsX50, w ∈ lw_tbl := by decide +kernel

def RX6 : String := "ReadBound$Route"
def TX6 : u_T := fun k => match k with
  | 0 => ("ReadBound$Route", "facts", "[I", true)
  | 1 => ("ReadBound$Route", "steps", "[I", true)
  | 2 => ("ReadBound$Route", "layers", "[I", true)
  | _ => ("ReadBound$Route", "length", "I", false)
def tyX6 : Nat → FieldType := fun k => match k with
  | 0 => .array .int
  | 1 => .array .int
  | 2 => .array .int
  | _ => .int
abbrev wsX60 : List Cond := u_ws RX6 TX6 4
theorem nmX6 : ∀ a, a < 4 → ∀ b, b < 4 → a ≠ b → (TX6 a).2.1 ≠ (TX6 b).2.1 := by decide +kernel
theorem tyX6_ok : ∀ k, k < 4 → parseFieldDescriptor (TX6 k).2.2.1 = some (tyX6 k) := by decide +kernel

theorem inX6 : ∀ w ∈ wsX60, w ∈ lw_tbl := by decide +kernel

def RX7 : String := "ReadBound$Sentence"
def TX7 : u_T := fun k => match k with
  | 0 => ("ReadBound$Sentence", "parts", "[I", true)
  | 1 => ("ReadBound$Sentence", "signs", "[I", true)
  | 2 => ("ReadBound$Sentence", "numbers", "[I", true)
  | 3 => ("ReadBound$Sentence", "stack", "[I", true)
  | _ => ("ReadBound$Sentence", "size", "I", false)
def tyX7 : Nat → FieldType := fun k => match k with
  | 0 => .array .int
  | 1 => .array .int
  | 2 => .array .int
  | 3 => .array .int
  | _ => .int
abbrev wsX70 : List Cond := u_ws RX7 TX7 5
theorem nmX7 : ∀ a, a < 5 → ∀ b, b < 5 → a ≠ b → (TX7 a).2.1 ≠ (TX7 b).2.1 := by decide +kernel
theorem tyX7_ok : ∀ k, k < 5 → parseFieldDescriptor (TX7 k).2.2.1 = some (tyX7 k) := by decide +kernel

theorem inX7 : ∀ w ∈ wsX70, w ∈ lw_tbl := by decide +kernel

def RX8 : String := "ReadBound$SentenceReader"
def TX8 : u_T := fun k => match k with
  | 0 => ("ReadBound$SentenceReader", "tokens", "LReadBound$Tokens;", true)
  | 1 => ("ReadBound$SentenceReader", "land", "LReadBound$Land;", true)
  | 2 => ("ReadBound$SentenceReader", "sentence", "LReadBound$Sentence;", true)
  | _ => ("ReadBound$SentenceReader", "ones", "I", false)
def tyX8 : Nat → FieldType := fun k => match k with
  | 0 => .object "ReadBound$Tokens"
  | 1 => .object "ReadBound$Land"
  | 2 => .object "ReadBound$Sentence"
  | _ => .int
abbrev wsX80 : List Cond := u_ws RX8 TX8 4
theorem nmX8 : ∀ a, a < 4 → ∀ b, b < 4 → a ≠ b → (TX8 a).2.1 ≠ (TX8 b).2.1 := by decide +kernel
theorem tyX8_ok : ∀ k, k < 4 → parseFieldDescriptor (TX8 k).2.2.1 = some (tyX8 k) := by decide +kernel

theorem inX8 : ∀ w ∈ wsX80, w ∈ lw_tbl := by decide +kernel

def RX9 : String := "ReadBound$Tokens"
def TX9 : u_T := fun k => match k with
  | 0 => ("ReadBound$Tokens", "tape", "[B", true)
  | 1 => ("ReadBound$Tokens", "vocabulary", "[J", true)
  | 2 => ("ReadBound$Tokens", "bytes", "I", false)
  | 3 => ("ReadBound$Tokens", "most", "I", false)
  | 4 => ("ReadBound$Tokens", "next", "I", false)
  | 5 => ("ReadBound$Tokens", "kind", "I", false)
  | 6 => ("ReadBound$Tokens", "start", "I", false)
  | 7 => ("ReadBound$Tokens", "value", "I", false)
  | 8 => ("ReadBound$Tokens", "word", "J", false)
  | 9 => ("ReadBound$Tokens", "keyword", "I", false)
  | 10 => ("ReadBound$Tokens", "fault", "I", false)
  | _ => ("ReadBound$Tokens", "faultAt", "I", false)
def tyX9 : Nat → FieldType := fun k => match k with
  | 0 => .array .byte
  | 1 => .array .long
  | 2 => .int
  | 3 => .int
  | 4 => .int
  | 5 => .int
  | 6 => .int
  | 7 => .int
  | 8 => .long
  | 9 => .int
  | 10 => .int
  | _ => .int
abbrev wsX90 : List Cond := u_ws RX9 TX9 12
theorem nmX9 : ∀ a, a < 12 → ∀ b, b < 12 → a ≠ b → (TX9 a).2.1 ≠ (TX9 b).2.1 := by decide +kernel
theorem tyX9_ok : ∀ k, k < 12 → parseFieldDescriptor (TX9 k).2.2.1 = some (tyX9 k) := by decide +kernel

theorem inX9 : ∀ w ∈ wsX90, w ∈ lw_tbl := by decide +kernel

def RX10 : String := "ReadBound"
def TX10 : u_T := fun k => match k with
  | 0 => ("ReadBound", "tokens", "LReadBound$Tokens;", true)
  | 1 => ("ReadBound", "land", "LReadBound$Land;", true)
  | 2 => ("ReadBound", "spareLand", "LReadBound$Land;", true)
  | 3 => ("ReadBound", "landReader", "LReadBound$LandReader;", true)
  | 4 => ("ReadBound", "life", "LReadBound$Life;", true)
  | 5 => ("ReadBound", "trial", "LReadBound$Life;", true)
  | 6 => ("ReadBound", "past", "LReadBound$Past;", true)
  | 7 => ("ReadBound", "sentence", "LReadBound$Sentence;", true)
  | 8 => ("ReadBound", "spareSentence", "LReadBound$Sentence;", true)
  | 9 => ("ReadBound", "sentenceReader", "LReadBound$SentenceReader;", true)
  | 10 => ("ReadBound", "diary", "LReadBound$Diary;", true)
  | 11 => ("ReadBound", "route", "LReadBound$Route;", true)
  | 12 => ("ReadBound", "scout", "LReadBound$Route;", true)
  | 13 => ("ReadBound", "firstImage", "LReadBound$Image;", true)
  | 14 => ("ReadBound", "secondImage", "LReadBound$Image;", true)
  | 15 => ("ReadBound", "told", "[I", true)
  | 16 => ("ReadBound", "diaryTold", "Z", false)
  | 17 => ("ReadBound", "posted", "I", false)
  | _ => ("ReadBound", "surely", "I", false)
def tyX10 : Nat → FieldType := fun k => match k with
  | 0 => .object "ReadBound$Tokens"
  | 1 => .object "ReadBound$Land"
  | 2 => .object "ReadBound$Land"
  | 3 => .object "ReadBound$LandReader"
  | 4 => .object "ReadBound$Life"
  | 5 => .object "ReadBound$Life"
  | 6 => .object "ReadBound$Past"
  | 7 => .object "ReadBound$Sentence"
  | 8 => .object "ReadBound$Sentence"
  | 9 => .object "ReadBound$SentenceReader"
  | 10 => .object "ReadBound$Diary"
  | 11 => .object "ReadBound$Route"
  | 12 => .object "ReadBound$Route"
  | 13 => .object "ReadBound$Image"
  | 14 => .object "ReadBound$Image"
  | 15 => .array .int
  | 16 => .boolean
  | 17 => .int
  | _ => .int
abbrev wsX100 : List Cond := u_ws RX10 TX10 19
theorem nmX10 : ∀ a, a < 19 → ∀ b, b < 19 → a ≠ b → (TX10 a).2.1 ≠ (TX10 b).2.1 := by decide +kernel
theorem tyX10_ok : ∀ k, k < 19 → parseFieldDescriptor (TX10 k).2.2.1 = some (tyX10 k) := by decide +kernel

theorem inX10 : ∀ w ∈ wsX100, w ∈ lw_tbl := by decide +kernel

def RX11 : String := "ReadBoundModel"
def TX11 : u_T := fun k => match k with
  | 0 => ("ReadBoundModel", "thrown", "I", false)
  | 1 => ("ReadBoundModel", "tape", "[B", true)
  | 2 => ("ReadBoundModel", "length", "I", false)
  | 3 => ("ReadBoundModel", "size", "I", false)
  | 4 => ("ReadBoundModel", "p", "I", false)
  | 5 => ("ReadBoundModel", "limit", "I", false)
  | 6 => ("ReadBoundModel", "s", "[I", true)
  | 7 => ("ReadBoundModel", "h", "[I", true)
  | 8 => ("ReadBoundModel", "read", "[I", true)
  | 9 => ("ReadBoundModel", "names", "[J", true)
  | 10 => ("ReadBoundModel", "reserved", "[J", true)
  | 11 => ("ReadBoundModel", "token", "I", false)
  | 12 => ("ReadBoundModel", "at", "I", false)
  | 13 => ("ReadBoundModel", "span", "I", false)
  | 14 => ("ReadBoundModel", "number", "I", false)
  | 15 => ("ReadBoundModel", "fault", "I", false)
  | 16 => ("ReadBoundModel", "faultAt", "I", false)
  | 17 => ("ReadBoundModel", "word", "J", false)
  | 18 => ("ReadBoundModel", "got", "I", false)
  | 19 => ("ReadBoundModel", "lines", "I", false)
  | 20 => ("ReadBoundModel", "undone", "[I", true)
  | 21 => ("ReadBoundModel", "before", "[I", true)
  | 22 => ("ReadBoundModel", "undoMany", "I", false)
  | 23 => ("ReadBoundModel", "far", "[I", true)
  | 24 => ("ReadBoundModel", "wayRow", "[I", true)
  | 25 => ("ReadBoundModel", "stepRow", "[I", true)
  | 26 => ("ReadBoundModel", "stepMany", "I", false)
  | 27 => ("ReadBoundModel", "postedMen", "I", false)
  | 28 => ("ReadBoundModel", "hasPosts", "Z", false)
  | 29 => ("ReadBoundModel", "surelySet", "I", false)
  | 30 => ("ReadBoundModel", "hasReads", "Z", false)
  | 31 => ("ReadBoundModel", "seed", "I", false)
  | 32 => ("ReadBoundModel", "told", "I", false)
  | 33 => ("ReadBoundModel", "toldAt", "[I", true)
  | 34 => ("ReadBoundModel", "hasTold", "Z", false)
  | 35 => ("ReadBoundModel", "stack", "[I", true)
  | 36 => ("ReadBoundModel", "codes", "I", false)
  | 37 => ("ReadBoundModel", "ones", "I", false)
  | 38 => ("ReadBoundModel", "top", "I", false)
  | 39 => ("ReadBoundModel", "deep", "I", false)
  | 40 => ("ReadBoundModel", "isWhole", "Z", false)
  | 41 => ("ReadBoundModel", "truths", "[Z", true)
  | 42 => ("ReadBoundModel", "kept", "[I", true)
  | 43 => ("ReadBoundModel", "namesKept", "[J", true)
  | _ => ("ReadBoundModel", "areKept", "[Z", true)
def tyX11 : Nat → FieldType := fun k => match k with
  | 0 => .int
  | 1 => .array .byte
  | 2 => .int
  | 3 => .int
  | 4 => .int
  | 5 => .int
  | 6 => .array .int
  | 7 => .array .int
  | 8 => .array .int
  | 9 => .array .long
  | 10 => .array .long
  | 11 => .int
  | 12 => .int
  | 13 => .int
  | 14 => .int
  | 15 => .int
  | 16 => .int
  | 17 => .long
  | 18 => .int
  | 19 => .int
  | 20 => .array .int
  | 21 => .array .int
  | 22 => .int
  | 23 => .array .int
  | 24 => .array .int
  | 25 => .array .int
  | 26 => .int
  | 27 => .int
  | 28 => .boolean
  | 29 => .int
  | 30 => .boolean
  | 31 => .int
  | 32 => .int
  | 33 => .array .int
  | 34 => .boolean
  | 35 => .array .int
  | 36 => .int
  | 37 => .int
  | 38 => .int
  | 39 => .int
  | 40 => .boolean
  | 41 => .array .boolean
  | 42 => .array .int
  | 43 => .array .long
  | _ => .array .boolean
abbrev wsX110 : List Cond := u_ws RX11 TX11 45
theorem nmX11 : ∀ a, a < 45 → ∀ b, b < 45 → a ≠ b → (TX11 a).2.1 ≠ (TX11 b).2.1 := by decide +kernel
theorem tyX11_ok : ∀ k, k < 45 → parseFieldDescriptor (TX11 k).2.2.1 = some (tyX11 k) := by decide +kernel

theorem inX11 : ∀ w ∈ wsX110, w ∈ lw_tbl := by decide +kernel

abbrev vwCl : List vw_C := [(RX0, TX0, 6), (RX1, TX1, 4), (RX2, TX2, 2), (RX3, TX3, 2), (RX4, TX4, 3), (RX5, TX5, 3), (RX6, TX6, 4), (RX7, TX7, 5), (RX8, TX8, 4), (RX9, TX9, 12), (RX10, TX10, 19), (RX11, TX11, 45)]

def pi_cn : List String := [RX0, RX1, RX2, RX3, RX4, RX5, RX6, RX7, RX8, RX9, RX10, RX11, "java/lang/Integer"]

def pi_ty (c : Nat) : Nat → FieldType := match c with
  | 0 => tyX0
  | 1 => tyX1
  | 2 => tyX2
  | 3 => tyX3
  | 4 => tyX4
  | 5 => tyX5
  | 6 => tyX6
  | 7 => tyX7
  | 8 => tyX8
  | 9 => tyX9
  | 10 => tyX10
  | _ => tyX11
end
section
/-! the code of each method as a table: place, instruction, length; by program -/
def mc_0 : List (Nat × Instr × Nat) := [(0, .aload_n 0, 1), (1, .invokespecial 3, 3), (4, .aload_n 0, 1), (5, .aload_n 1, 1), (6, .putfield 9, 3), (9, .aload_n 0, 1), (10, .aload_n 2, 1), (11, .putfield 15, 3), (14, .aload_n 0, 1), (15, .bipush 40, 2), (17, .newarray .int, 2), (19, .putfield 19, 3), (22, .aload_n 0, 1), (23, .bipush 40, 2), (25, .newarray .int, 2), (27, .putfield 23, 3), (30, .aload_n 0, 1), (31, .bipush 40, 2), (33, .newarray .int, 2), (35, .putfield 26, 3), (38, .return_, 1)]
def mc_1 : List (Nat × Instr × Nat) := [(0, .aload_n 0, 1), (1, .iconst 0, 1), (2, .putfield 29, 3), (5, .aload_n 0, 1), (6, .getfield 9, 3), (9, .sipush 400, 3), (12, .invokevirtual 33, 3), (15, .iconst 0, 1), (16, .istore_n 1, 1), (17, .iload_n 1, 1), (18, .bipush 40, 2), (20, .if_icmp .gt 42, 3), (23, .aload_n 0, 1), (24, .getfield 9, 3), (27, .getfield 39, 3), (30, .ifCond .ne 5, 3), (33, .iconst 1, 1), (34, .ireturn, 1), (35, .aload_n 0, 1), (36, .invokevirtual 42, 3), (39, .ifCond .eq 15, 3), (42, .aload_n 0, 1), (43, .getfield 9, 3), (46, .bipush 59, 2), (48, .invokevirtual 46, 3), (51, .ifCond .ne 5, 3), (54, .iconst 0, 1), (55, .ireturn, 1), (56, .iinc 1 1, 3), (59, .goto (-42), 3), (62, .iconst 0, 1), (63, .ireturn, 1)]
def mc_2 : List (Nat × Instr × Nat) := [(0, .aload_n 0, 1), (1, .getfield 9, 3), (4, .invokevirtual 50, 3), (7, .ifCond .eq 8, 3), (10, .aload_n 0, 1), (11, .invokevirtual 53, 3), (14, .ireturn, 1), (15, .aload_n 0, 1), (16, .getfield 9, 3), (19, .getfield 56, 3), (22, .istore_n 1, 1), (23, .iload_n 1, 1), (24, .bipush 14, 2), (26, .if_icmp .eq 24, 3), (29, .iload_n 1, 1), (30, .bipush 15, 2), (32, .if_icmp .eq 18, 3), (35, .iload_n 1, 1), (36, .bipush 16, 2), (38, .if_icmp .eq 12, 3), (41, .aload_n 0, 1), (42, .getfield 9, 3), (45, .iconst 1, 1), (46, .invokevirtual 59, 3), (49, .ireturn, 1), (50, .aload_n 0, 1), (51, .invokevirtual 63, 3), (54, .ifCond .ne 5, 3), (57, .iconst 0, 1), (58, .ireturn, 1), (59, .iload_n 1, 1), (60, .bipush 16, 2), (62, .if_icmp .ne 20, 3), (65, .aload_n 0, 1), (66, .iload_n 1, 1), (67, .aload_n 0, 1), (68, .getfield 9, 3), (71, .iconst 1, 1), (72, .bipush 60, 2), (74, .invokevirtual 66, 3), (77, .iconst 0, 1), (78, .invokevirtual 70, 3), (81, .ireturn, 1), (82, .iload_n 1, 1), (83, .bipush 15, 2), (85, .if_icmp .ne 22, 3), (88, .aload_n 0, 1), (89, .iload_n 1, 1), (90, .aload_n 0, 1), (91, .getfield 9, 3), (94, .aload_n 0, 1), (95, .getfield 15, 3), (98, .iconst 0, 1), (99, .invokevirtual 76, 3), (102, .iconst 0, 1), (103, .invokevirtual 70, 3), (106, .ireturn, 1), (107, .aload_n 0, 1), (108, .getfield 9, 3), (111, .aload_n 0, 1), (112, .getfield 15, 3), (115, .iconst 3, 1), (116, .invokevirtual 76, 3), (119, .istore_n 2, 1), (120, .iload_n 2, 1), (121, .iconst (-1), 1), (122, .if_icmp .eq 28, 3), (125, .aload_n 0, 1), (126, .iload_n 1, 1), (127, .iload_n 2, 1), (128, .aload_n 0, 1), (129, .getfield 9, 3), (132, .aload_n 0, 1), (133, .getfield 15, 3), (136, .iconst 0, 1), (137, .invokevirtual 76, 3), (140, .invokevirtual 70, 3), (143, .ifCond .eq 7, 3), (146, .iconst 1, 1), (147, .goto 4, 3), (150, .iconst 0, 1), (151, .ireturn, 1)]
def mc_3 : List (Nat × Instr × Nat) := [(0, .aload_n 0, 1), (1, .getfield 9, 3), (4, .aload_n 0, 1), (5, .getfield 15, 3), (8, .iconst 4, 1), (9, .invokevirtual 80, 3), (12, .istore_n 1, 1), (13, .iload_n 1, 1), (14, .iconst (-1), 1), (15, .if_icmp .eq 10, 3), (18, .aload_n 0, 1), (19, .invokevirtual 63, 3), (22, .ifCond .ne 5, 3), (25, .iconst 0, 1), (26, .ireturn, 1), (27, .aload_n 0, 1), (28, .getfield 9, 3), (31, .getfield 56, 3), (34, .istore_n 2, 1), (35, .iload_n 2, 1), (36, .tableswitch 103 9 13 #[36, 62, 88, 88, 88], 36), (72, .aload_n 0, 1), (73, .getfield 9, 3), (76, .invokevirtual 83, 3), (79, .aload_n 0, 1), (80, .iload_n 2, 1), (81, .iload_n 1, 1), (82, .aload_n 0, 1), (83, .getfield 9, 3), (86, .aload_n 0, 1), (87, .getfield 15, 3), (90, .iconst 0, 1), (91, .invokevirtual 76, 3), (94, .invokevirtual 70, 3), (97, .ireturn, 1), (98, .aload_n 0, 1), (99, .getfield 9, 3), (102, .invokevirtual 83, 3), (105, .aload_n 0, 1), (106, .iload_n 2, 1), (107, .iload_n 1, 1), (108, .aload_n 0, 1), (109, .getfield 9, 3), (112, .aload_n 0, 1), (113, .getfield 15, 3), (116, .iconst 2, 1), (117, .invokevirtual 76, 3), (120, .invokevirtual 70, 3), (123, .ireturn, 1), (124, .aload_n 0, 1), (125, .getfield 9, 3), (128, .invokevirtual 83, 3), (131, .aload_n 0, 1), (132, .iload_n 2, 1), (133, .iload_n 1, 1), (134, .iconst 0, 1), (135, .invokevirtual 70, 3), (138, .ireturn, 1), (139, .aload_n 0, 1), (140, .getfield 9, 3), (143, .iconst 1, 1), (144, .invokevirtual 59, 3), (147, .ireturn, 1)]
def mc_4 : List (Nat × Instr × Nat) := [(0, .aload_n 0, 1), (1, .getfield 29, 3), (4, .bipush 40, 2), (6, .if_icmp .lt 12, 3), (9, .aload_n 0, 1), (10, .getfield 9, 3), (13, .iconst 4, 1), (14, .invokevirtual 59, 3), (17, .ireturn, 1), (18, .aload_n 0, 1), (19, .getfield 9, 3), (22, .invokevirtual 83, 3), (25, .iconst 1, 1), (26, .ireturn, 1)]
def mc_5 : List (Nat × Instr × Nat) := [(0, .iload_n 2, 1), (1, .iconst (-1), 1), (2, .if_icmp .eq 8, 3), (5, .iload_n 3, 1), (6, .iconst (-1), 1), (7, .if_icmp .ne 5, 3), (10, .iconst 0, 1), (11, .ireturn, 1), (12, .aload_n 0, 1), (13, .getfield 19, 3), (16, .aload_n 0, 1), (17, .getfield 29, 3), (20, .iload_n 1, 1), (21, .invokestatic 86, 3), (24, .aload_n 0, 1), (25, .getfield 23, 3), (28, .aload_n 0, 1), (29, .getfield 29, 3), (32, .iload_n 2, 1), (33, .invokestatic 86, 3), (36, .aload_n 0, 1), (37, .getfield 26, 3), (40, .aload_n 0, 1), (41, .getfield 29, 3), (44, .iload_n 3, 1), (45, .invokestatic 86, 3), (48, .aload_n 0, 1), (49, .dup, 1), (50, .getfield 29, 3), (53, .iconst 1, 1), (54, .iadd, 1), (55, .putfield 29, 3), (58, .iconst 1, 1), (59, .ireturn, 1)]
def mc_6 : List (Nat × Instr × Nat) := [(0, .aload_n 0, 1), (1, .invokespecial 1, 3), (4, .aload_n 0, 1), (5, .new 7, 3), (8, .dup, 1), (9, .invokespecial 9, 3), (12, .putfield 10, 3), (15, .aload_n 0, 1), (16, .new 16, 3), (19, .dup, 1), (20, .aload_n 0, 1), (21, .getfield 10, 3), (24, .getfield 18, 3), (27, .invokespecial 22, 3), (30, .putfield 25, 3), (33, .aload_n 0, 1), (34, .new 29, 3), (37, .dup, 1), (38, .invokespecial 31, 3), (41, .putfield 32, 3), (44, .return_, 1)]
def mc_7 : List (Nat × Instr × Nat) := [(0, .aload_n 0, 1), (1, .getfield 10, 3), (4, .aload_n 1, 1), (5, .invokevirtual 36, 3), (8, .aload_n 0, 1), (9, .getfield 25, 3), (12, .aload_n 2, 1), (13, .invokevirtual 40, 3), (16, .aload_n 0, 1), (17, .getfield 32, 3), (20, .aload_n 3, 1), (21, .invokevirtual 43, 3), (24, .aload_n 0, 1), (25, .iconst 1, 1), (26, .putfield 46, 3), (29, .return_, 1)]
def mc_8 : List (Nat × Instr × Nat) := [(0, .aload_n 1, 1), (1, .aload_n 0, 1), (2, .getfield 10, 3), (5, .invokevirtual 36, 3), (8, .aload_n 2, 1), (9, .aload_n 0, 1), (10, .getfield 25, 3), (13, .invokevirtual 40, 3), (16, .aload_n 3, 1), (17, .aload_n 0, 1), (18, .getfield 32, 3), (21, .invokevirtual 43, 3), (24, .return_, 1)]
def mc_9 : List (Nat × Instr × Nat) := [(0, .aload_n 0, 1), (1, .invokespecial 5, 3), (4, .aload_n 0, 1), (5, .sipush 170, 3), (8, .newarray .int, 2), (10, .putfield 11, 3), (13, .aload_n 0, 1), (14, .bipush 27, 2), (16, .newarray .long, 2), (18, .putfield 15, 3), (21, .return_, 1)]
def mc_10 : List (Nat × Instr × Nat) := [(0, .iconst 0, 1), (1, .istore_n 1, 1), (2, .iload_n 1, 1), (3, .aload_n 0, 1), (4, .getfield 11, 3), (7, .arraylength, 1), (8, .if_icmp .ge 16, 3), (11, .aload_n 0, 1), (12, .getfield 11, 3), (15, .iload_n 1, 1), (16, .iconst 0, 1), (17, .iastore, 1), (18, .iinc 1 1, 3), (21, .goto (-19), 3), (24, .return_, 1)]
def mc_11 : List (Nat × Instr × Nat) := [(0, .aload_n 1, 1), (1, .getfield 11, 3), (4, .aload_n 0, 1), (5, .getfield 11, 3), (8, .invokestatic 19, 3), (11, .aload_n 1, 1), (12, .getfield 15, 3), (15, .iconst 0, 1), (16, .aload_n 0, 1), (17, .getfield 15, 3), (20, .iconst 0, 1), (21, .aload_n 1, 1), (22, .getfield 15, 3), (25, .arraylength, 1), (26, .aload_n 0, 1), (27, .getfield 15, 3), (30, .arraylength, 1), (31, .invokestatic 23, 3), (34, .invokestatic 29, 3), (37, .return_, 1)]
def mc_12 : List (Nat × Instr × Nat) := [(0, .iconst 0, 1), (1, .istore_n 3, 1), (2, .iload_n 3, 1), (3, .aload_n 0, 1), (4, .getfield 11, 3), (7, .iconst 5, 1), (8, .invokestatic 35, 3), (11, .if_icmp .ge 31, 3), (14, .iload_n 3, 1), (15, .aload_n 0, 1), (16, .getfield 15, 3), (19, .arraylength, 1), (20, .if_icmp .ge 22, 3), (23, .aload_n 0, 1), (24, .getfield 15, 3), (27, .iload_n 3, 1), (28, .laload, 1), (29, .lload_n 1, 1), (30, .lcmp, 1), (31, .ifCond .ne 5, 3), (34, .iconst 1, 1), (35, .ireturn, 1), (36, .iinc 3 1, 3), (39, .goto (-37), 3), (42, .iconst 0, 1), (43, .ireturn, 1)]
def mc_13 : List (Nat × Instr × Nat) := [(0, .iconst 0, 1), (1, .istore 4, 2), (3, .iload 4, 2), (5, .aload_n 0, 1), (6, .getfield 11, 3), (9, .iconst 5, 1), (10, .invokestatic 35, 3), (13, .if_icmp .ge 61, 3), (16, .iload 4, 2), (18, .aload_n 0, 1), (19, .getfield 15, 3), (22, .arraylength, 1), (23, .if_icmp .ge 51, 3), (26, .aload_n 0, 1), (27, .getfield 15, 3), (30, .iload 4, 2), (32, .laload, 1), (33, .lload_n 1, 1), (34, .lcmp, 1), (35, .ifCond .ne 33, 3), (38, .aload_n 0, 1), (39, .getfield 11, 3), (42, .bipush 116, 2), (44, .iload 4, 2), (46, .iadd, 1), (47, .invokestatic 35, 3), (50, .iload_n 3, 1), (51, .if_icmp .ne 17, 3), (54, .aload_n 0, 1), (55, .getfield 11, 3), (58, .sipush 143, 3), (61, .iload 4, 2), (63, .iadd, 1), (64, .invokestatic 35, 3), (67, .ireturn, 1), (68, .iinc 4 1, 3), (71, .goto (-68), 3), (74, .iconst (-1), 1), (75, .ireturn, 1)]
def mc_14 : List (Nat × Instr × Nat) := [(0, .aload_n 0, 1), (1, .getfield 11, 3), (4, .iconst 5, 1), (5, .invokestatic 35, 3), (8, .istore 4, 2), (10, .aload_n 0, 1), (11, .getfield 11, 3), (14, .iload_n 3, 1), (15, .invokestatic 35, 3), (18, .istore 5, 2), (20, .iload 4, 2), (22, .ifCond .lt 73, 3), (25, .iload 4, 2), (27, .aload_n 0, 1), (28, .getfield 15, 3), (31, .arraylength, 1), (32, .if_icmp .ge 63, 3), (35, .aload_n 0, 1), (36, .getfield 15, 3), (39, .iload 4, 2), (41, .lload_n 1, 1), (42, .lastore, 1), (43, .aload_n 0, 1), (44, .getfield 11, 3), (47, .bipush 116, 2), (49, .iload 4, 2), (51, .iadd, 1), (52, .iload_n 3, 1), (53, .invokestatic 39, 3), (56, .aload_n 0, 1), (57, .getfield 11, 3), (60, .sipush 143, 3), (63, .iload 4, 2), (65, .iadd, 1), (66, .iload 5, 2), (68, .invokestatic 39, 3), (71, .aload_n 0, 1), (72, .getfield 11, 3), (75, .iconst 5, 1), (76, .iload 4, 2), (78, .iconst 1, 1), (79, .iadd, 1), (80, .invokestatic 39, 3), (83, .aload_n 0, 1), (84, .getfield 11, 3), (87, .iload_n 3, 1), (88, .iload 5, 2), (90, .iconst 1, 1), (91, .iadd, 1), (92, .invokestatic 39, 3), (95, .iload 5, 2), (97, .ireturn, 1)]
def mc_15 : List (Nat × Instr × Nat) := [(0, .aload_n 0, 1), (1, .getfield 11, 3), (4, .iload_n 1, 1), (5, .aload_n 0, 1), (6, .getfield 11, 3), (9, .iload_n 1, 1), (10, .invokestatic 35, 3), (13, .iload_n 2, 1), (14, .ior, 1), (15, .invokestatic 39, 3), (18, .return_, 1)]
def mc_16 : List (Nat × Instr × Nat) := [(0, .aload_n 0, 1), (1, .getfield 11, 3), (4, .bipush 6, 2), (6, .iload_n 1, 1), (7, .iadd, 1), (8, .invokestatic 35, 3), (11, .iload_n 2, 1), (12, .ishr, 1), (13, .iconst 1, 1), (14, .iand, 1), (15, .iconst 1, 1), (16, .if_icmp .ne 7, 3), (19, .iconst 1, 1), (20, .goto 4, 3), (23, .iconst 0, 1), (24, .ireturn, 1)]
def mc_17 : List (Nat × Instr × Nat) := [(0, .iconst 1, 1), (1, .iload_n 1, 1), (2, .ishl, 1), (3, .istore 4, 2), (5, .iconst 0, 1), (6, .istore 5, 2), (8, .iconst 0, 1), (9, .istore 6, 2), (11, .iload 6, 2), (13, .bipush 10, 2), (15, .if_icmp .ge 68, 3), (18, .iload 4, 2), (20, .iload 5, 2), (22, .if_icmp .eq 61, 3), (25, .iload 4, 2), (27, .istore 5, 2), (29, .iconst 0, 1), (30, .istore 7, 2), (32, .iload 7, 2), (34, .bipush 10, 2), (36, .if_icmp .ge 41, 3), (39, .iload 5, 2), (41, .iload 7, 2), (43, .ishr, 1), (44, .iconst 1, 1), (45, .iand, 1), (46, .iconst 1, 1), (47, .if_icmp .ne 24, 3), (50, .iload 4, 2), (52, .aload_n 0, 1), (53, .getfield 11, 3), (56, .bipush 6, 2), (58, .iload 7, 2), (60, .iadd, 1), (61, .invokestatic 35, 3), (64, .iload_n 3, 1), (65, .iconst (-1), 1), (66, .ixor, 1), (67, .iand, 1), (68, .ior, 1), (69, .istore 4, 2), (71, .iinc 7 1, 3), (74, .goto (-42), 3), (77, .iinc 6 1, 3), (80, .goto (-69), 3), (83, .iload 4, 2), (85, .iload_n 2, 1), (86, .ishr, 1), (87, .iconst 1, 1), (88, .iand, 1), (89, .ifCond .ne 7, 3), (92, .iconst 1, 1), (93, .goto 4, 3), (96, .iconst 0, 1), (97, .ireturn, 1)]
def mc_18 : List (Nat × Instr × Nat) := [(0, .iconst 0, 1), (1, .istore_n 2, 1), (2, .iconst 0, 1), (3, .istore_n 3, 1), (4, .iload_n 3, 1), (5, .aload_n 0, 1), (6, .getfield 11, 3), (9, .iconst 3, 1), (10, .invokestatic 35, 3), (13, .if_icmp .ge 49, 3), (16, .iload_n 1, 1), (17, .iload_n 3, 1), (18, .ishr, 1), (19, .iconst 1, 1), (20, .iand, 1), (21, .iconst 1, 1), (22, .if_icmp .ne 34, 3), (25, .aload_n 0, 1), (26, .getfield 11, 3), (29, .bipush 38, 2), (31, .iload_n 3, 1), (32, .iadd, 1), (33, .invokestatic 35, 3), (36, .iconst (-1), 1), (37, .if_icmp .eq 5, 3), (40, .iconst (-1), 1), (41, .ireturn, 1), (42, .iload_n 2, 1), (43, .aload_n 0, 1), (44, .getfield 11, 3), (47, .bipush 32, 2), (49, .iload_n 3, 1), (50, .iadd, 1), (51, .invokestatic 35, 3), (54, .ior, 1), (55, .istore_n 2, 1), (56, .iinc 3 1, 3), (59, .goto (-55), 3), (62, .iload_n 2, 1), (63, .ireturn, 1)]
def mc_19 : List (Nat × Instr × Nat) := [(0, .iconst 0, 1), (1, .istore_n 2, 1), (2, .iconst 0, 1), (3, .istore_n 3, 1), (4, .iload_n 3, 1), (5, .bipush 6, 2), (7, .if_icmp .ge 74, 3), (10, .iconst 0, 1), (11, .istore 4, 2), (13, .iload 4, 2), (15, .aload_n 0, 1), (16, .getfield 11, 3), (19, .iconst 4, 1), (20, .invokestatic 35, 3), (23, .if_icmp .ge 52, 3), (26, .aload_n 0, 1), (27, .getfield 11, 3), (30, .bipush 56, 2), (32, .iload 4, 2), (34, .iadd, 1), (35, .invokestatic 35, 3), (38, .istore 5, 2), (40, .iload 5, 2), (42, .iload_n 1, 1), (43, .if_icmp .eq 19, 3), (46, .iload 5, 2), (48, .iconst (-1), 1), (49, .if_icmp .eq 20, 3), (52, .iload_n 2, 1), (53, .iload 5, 2), (55, .ishr, 1), (56, .iconst 1, 1), (57, .iand, 1), (58, .iconst 1, 1), (59, .if_icmp .ne 10, 3), (62, .iload_n 2, 1), (63, .iconst 1, 1), (64, .iload 4, 2), (66, .ishl, 1), (67, .ior, 1), (68, .istore_n 2, 1), (69, .iinc 4 1, 3), (72, .goto (-59), 3), (75, .iinc 3 1, 3), (78, .goto (-74), 3), (81, .iload_n 2, 1), (82, .ireturn, 1)]
def mc_20 : List (Nat × Instr × Nat) := [(0, .aload_n 0, 1), (1, .invokespecial 3, 3), (4, .aload_n 0, 1), (5, .aload_n 1, 1), (6, .putfield 9, 3), (9, .aload_n 0, 1), (10, .aload_n 2, 1), (11, .putfield 15, 3), (14, .return_, 1)]
def mc_21 : List (Nat × Instr × Nat) := [(0, .aload_n 0, 1), (1, .getfield 15, 3), (4, .invokevirtual 19, 3), (7, .aload_n 0, 1), (8, .getfield 9, 3), (11, .sipush 900, 3), (14, .invokevirtual 24, 3), (17, .iconst 0, 1), (18, .istore_n 1, 1), (19, .iload_n 1, 1), (20, .sipush 940, 3), (23, .if_icmp .gt 42, 3), (26, .aload_n 0, 1), (27, .getfield 9, 3), (30, .getfield 30, 3), (33, .ifCond .ne 5, 3), (36, .iload_n 1, 1), (37, .ireturn, 1), (38, .aload_n 0, 1), (39, .invokevirtual 34, 3), (42, .ifCond .eq 15, 3), (45, .aload_n 0, 1), (46, .getfield 9, 3), (49, .bipush 59, 2), (51, .invokevirtual 38, 3), (54, .ifCond .ne 5, 3), (57, .iconst (-1), 1), (58, .ireturn, 1), (59, .iinc 1 1, 3), (62, .goto (-43), 3), (65, .iconst (-1), 1), (66, .ireturn, 1)]
def mc_22 : List (Nat × Instr × Nat) := [(0, .aload_n 0, 1), (1, .getfield 9, 3), (4, .getfield 42, 3), (7, .tableswitch 240 0 8 #[49, 74, 97, 121, 151, 181, 204, 216, 228], 49), (56, .aload_n 0, 1), (57, .iconst 0, 1), (58, .bipush 10, 2), (60, .invokevirtual 45, 3), (63, .ifCond .eq 16, 3), (66, .aload_n 0, 1), (67, .iconst 0, 1), (68, .invokevirtual 49, 3), (71, .iconst (-1), 1), (72, .if_icmp .eq 7, 3), (75, .iconst 1, 1), (76, .goto 4, 3), (79, .iconst 0, 1), (80, .ireturn, 1), (81, .aload_n 0, 1), (82, .iconst 1, 1), (83, .bipush 16, 2), (85, .invokevirtual 45, 3), (88, .ifCond .eq 14, 3), (91, .aload_n 0, 1), (92, .invokevirtual 53, 3), (95, .ifCond .eq 7, 3), (98, .iconst 1, 1), (99, .goto 4, 3), (102, .iconst 0, 1), (103, .ireturn, 1), (104, .aload_n 0, 1), (105, .iconst 2, 1), (106, .iconst 5, 1), (107, .invokevirtual 45, 3), (110, .ifCond .eq 16, 3), (113, .aload_n 0, 1), (114, .iconst 2, 1), (115, .invokevirtual 49, 3), (118, .iconst (-1), 1), (119, .if_icmp .eq 7, 3), (122, .iconst 1, 1), (123, .goto 4, 3), (126, .iconst 0, 1), (127, .ireturn, 1), (128, .aload_n 0, 1), (129, .iconst 3, 1), (130, .bipush 6, 2), (132, .invokevirtual 45, 3), (135, .ifCond .eq 21, 3), (138, .aload_n 0, 1), (139, .invokevirtual 56, 3), (142, .ifCond .eq 14, 3), (145, .aload_n 0, 1), (146, .invokevirtual 59, 3), (149, .ifCond .eq 7, 3), (152, .iconst 1, 1), (153, .goto 4, 3), (156, .iconst 0, 1), (157, .ireturn, 1), (158, .aload_n 0, 1), (159, .iconst 3, 1), (160, .bipush 6, 2), (162, .invokevirtual 45, 3), (165, .ifCond .eq 21, 3), (168, .aload_n 0, 1), (169, .invokevirtual 56, 3), (172, .ifCond .eq 14, 3), (175, .aload_n 0, 1), (176, .invokevirtual 62, 3), (179, .ifCond .eq 7, 3), (182, .iconst 1, 1), (183, .goto 4, 3), (186, .iconst 0, 1), (187, .ireturn, 1), (188, .aload_n 0, 1), (189, .iconst 4, 1), (190, .bipush 6, 2), (192, .invokevirtual 45, 3), (195, .ifCond .eq 14, 3), (198, .aload_n 0, 1), (199, .invokevirtual 65, 3), (202, .ifCond .eq 7, 3), (205, .iconst 1, 1), (206, .goto 4, 3), (209, .iconst 0, 1), (210, .ireturn, 1), (211, .aload_n 0, 1), (212, .getfield 9, 3), (215, .invokevirtual 68, 3), (218, .aload_n 0, 1), (219, .invokevirtual 71, 3), (222, .ireturn, 1), (223, .aload_n 0, 1), (224, .getfield 9, 3), (227, .invokevirtual 68, 3), (230, .aload_n 0, 1), (231, .invokevirtual 74, 3), (234, .ireturn, 1), (235, .aload_n 0, 1), (236, .getfield 9, 3), (239, .invokevirtual 68, 3), (242, .aload_n 0, 1), (243, .invokevirtual 77, 3), (246, .ireturn, 1), (247, .aload_n 0, 1), (248, .getfield 9, 3), (251, .iconst 1, 1), (252, .invokevirtual 80, 3), (255, .ireturn, 1)]
def mc_23 : List (Nat × Instr × Nat) := [(0, .aload_n 0, 1), (1, .getfield 15, 3), (4, .getfield 84, 3), (7, .iload_n 1, 1), (8, .invokestatic 88, 3), (11, .iload_n 2, 1), (12, .if_icmp .lt 12, 3), (15, .aload_n 0, 1), (16, .getfield 9, 3), (19, .iconst 4, 1), (20, .invokevirtual 80, 3), (23, .ireturn, 1), (24, .aload_n 0, 1), (25, .getfield 9, 3), (28, .invokevirtual 68, 3), (31, .iconst 1, 1), (32, .ireturn, 1)]
def mc_24 : List (Nat × Instr × Nat) := [(0, .aload_n 0, 1), (1, .getfield 9, 3), (4, .invokevirtual 92, 3), (7, .ifCond .ne 14, 3), (10, .aload_n 0, 1), (11, .getfield 9, 3), (14, .iconst 1, 1), (15, .invokevirtual 80, 3), (18, .pop, 1), (19, .iconst (-1), 1), (20, .ireturn, 1), (21, .aload_n 0, 1), (22, .getfield 15, 3), (25, .aload_n 0, 1), (26, .getfield 9, 3), (29, .getfield 95, 3), (32, .invokevirtual 99, 3), (35, .ifCond .eq 14, 3), (38, .aload_n 0, 1), (39, .getfield 9, 3), (42, .iconst 3, 1), (43, .invokevirtual 80, 3), (46, .pop, 1), (47, .iconst (-1), 1), (48, .ireturn, 1), (49, .aload_n 0, 1), (50, .getfield 15, 3), (53, .aload_n 0, 1), (54, .getfield 9, 3), (57, .getfield 95, 3), (60, .iload_n 1, 1), (61, .invokevirtual 103, 3), (64, .istore_n 2, 1), (65, .aload_n 0, 1), (66, .getfield 9, 3), (69, .invokevirtual 68, 3), (72, .iload_n 2, 1), (73, .ireturn, 1)]
def mc_25 : List (Nat × Instr × Nat) := [(0, .aload_n 0, 1), (1, .getfield 9, 3), (4, .aload_n 0, 1), (5, .getfield 15, 3), (8, .iconst 0, 1), (9, .invokevirtual 107, 3), (12, .istore_n 1, 1), (13, .iload_n 1, 1), (14, .iconst (-1), 1), (15, .if_icmp .ne 5, 3), (18, .iconst 0, 1), (19, .ireturn, 1), (20, .aload_n 0, 1), (21, .getfield 9, 3), (24, .aload_n 0, 1), (25, .getfield 15, 3), (28, .iconst 0, 1), (29, .invokevirtual 111, 3), (32, .istore_n 2, 1), (33, .iload_n 2, 1), (34, .iconst (-1), 1), (35, .if_icmp .ne 5, 3), (38, .iconst 0, 1), (39, .ireturn, 1), (40, .iload_n 1, 1), (41, .iload_n 2, 1), (42, .if_icmp .eq 15, 3), (45, .aload_n 0, 1), (46, .getfield 15, 3), (49, .iload_n 1, 1), (50, .iload_n 2, 1), (51, .invokevirtual 114, 3), (54, .ifCond .eq 12, 3), (57, .aload_n 0, 1), (58, .getfield 9, 3), (61, .iconst 3, 1), (62, .invokevirtual 80, 3), (65, .ireturn, 1), (66, .aload_n 0, 1), (67, .getfield 15, 3), (70, .bipush 6, 2), (72, .iload_n 1, 1), (73, .iadd, 1), (74, .iconst 1, 1), (75, .iload_n 2, 1), (76, .ishl, 1), (77, .invokevirtual 117, 3), (80, .aload_n 0, 1), (81, .getfield 15, 3), (84, .bipush 6, 2), (86, .iload_n 2, 1), (87, .iadd, 1), (88, .iconst 1, 1), (89, .iload_n 1, 1), (90, .ishl, 1), (91, .invokevirtual 117, 3), (94, .aload_n 0, 1), (95, .getfield 15, 3), (98, .getfield 84, 3), (101, .iconst 1, 1), (102, .aload_n 0, 1), (103, .getfield 15, 3), (106, .getfield 84, 3), (109, .iconst 1, 1), (110, .invokestatic 88, 3), (113, .iconst 1, 1), (114, .iadd, 1), (115, .invokestatic 121, 3), (118, .aload_n 0, 1), (119, .getfield 9, 3), (122, .invokevirtual 68, 3), (125, .iconst 1, 1), (126, .ireturn, 1)]
def mc_26 : List (Nat × Instr × Nat) := [(0, .aload_n 0, 1), (1, .iconst 3, 1), (2, .invokevirtual 49, 3), (5, .istore_n 1, 1), (6, .iload_n 1, 1), (7, .iconst (-1), 1), (8, .if_icmp .ne 5, 3), (11, .iconst 0, 1), (12, .ireturn, 1), (13, .aload_n 0, 1), (14, .getfield 15, 3), (17, .getfield 84, 3), (20, .bipush 38, 2), (22, .iload_n 1, 1), (23, .iadd, 1), (24, .iconst (-1), 1), (25, .invokestatic 121, 3), (28, .aload_n 0, 1), (29, .getfield 9, 3), (32, .iconst 1, 1), (33, .bipush 30, 2), (35, .invokevirtual 125, 3), (38, .istore_n 2, 1), (39, .aload_n 0, 1), (40, .getfield 15, 3), (43, .getfield 84, 3), (46, .bipush 26, 2), (48, .iload_n 1, 1), (49, .iadd, 1), (50, .iload_n 2, 1), (51, .invokestatic 121, 3), (54, .iload_n 2, 1), (55, .iconst (-1), 1), (56, .if_icmp .eq 7, 3), (59, .iconst 1, 1), (60, .goto 4, 3), (63, .iconst 0, 1), (64, .ireturn, 1)]
def mc_27 : List (Nat × Instr × Nat) := [(0, .aload_n 0, 1), (1, .getfield 15, 3), (4, .getfield 84, 3), (7, .iconst 3, 1), (8, .invokestatic 88, 3), (11, .iconst 1, 1), (12, .isub, 1), (13, .istore_n 1, 1), (14, .aload_n 0, 1), (15, .iload_n 1, 1), (16, .invokevirtual 129, 3), (19, .ifCond .ne 5, 3), (22, .iconst 0, 1), (23, .ireturn, 1), (24, .iconst 0, 1), (25, .istore_n 2, 1), (26, .iload_n 2, 1), (27, .iconst 5, 1), (28, .if_icmp .ge 31, 3), (31, .aload_n 0, 1), (32, .getfield 9, 3), (35, .bipush 59, 2), (37, .invokevirtual 132, 3), (40, .ifCond .ne 19, 3), (43, .aload_n 0, 1), (44, .iload_n 1, 1), (45, .invokevirtual 129, 3), (48, .ifCond .ne 5, 3), (51, .iconst 0, 1), (52, .ireturn, 1), (53, .iinc 2 1, 3), (56, .goto (-30), 3), (59, .iconst 1, 1), (60, .ireturn, 1)]
def mc_28 : List (Nat × Instr × Nat) := [(0, .aload_n 0, 1), (1, .getfield 9, 3), (4, .aload_n 0, 1), (5, .getfield 15, 3), (8, .iconst 2, 1), (9, .invokevirtual 111, 3), (12, .istore_n 2, 1), (13, .iload_n 2, 1), (14, .iconst (-1), 1), (15, .if_icmp .ne 5, 3), (18, .iconst 0, 1), (19, .ireturn, 1), (20, .aload_n 0, 1), (21, .getfield 15, 3), (24, .getfield 84, 3), (27, .bipush 32, 2), (29, .iload_n 1, 1), (30, .iadd, 1), (31, .invokestatic 88, 3), (34, .iload_n 2, 1), (35, .ishr, 1), (36, .iconst 1, 1), (37, .iand, 1), (38, .iconst 1, 1), (39, .if_icmp .ne 12, 3), (42, .aload_n 0, 1), (43, .getfield 9, 3), (46, .iconst 3, 1), (47, .invokevirtual 80, 3), (50, .ireturn, 1), (51, .aload_n 0, 1), (52, .getfield 15, 3), (55, .bipush 32, 2), (57, .iload_n 1, 1), (58, .iadd, 1), (59, .iconst 1, 1), (60, .iload_n 2, 1), (61, .ishl, 1), (62, .invokevirtual 117, 3), (65, .aload_n 0, 1), (66, .getfield 9, 3), (69, .invokevirtual 68, 3), (72, .iconst 1, 1), (73, .ireturn, 1)]
def mc_29 : List (Nat × Instr × Nat) := [(0, .aload_n 0, 1), (1, .getfield 15, 3), (4, .getfield 84, 3), (7, .iconst 3, 1), (8, .invokestatic 88, 3), (11, .iconst 1, 1), (12, .isub, 1), (13, .istore_n 1, 1), (14, .aload_n 0, 1), (15, .getfield 9, 3), (18, .aload_n 0, 1), (19, .getfield 15, 3), (22, .iconst 3, 1), (23, .invokevirtual 111, 3), (26, .istore_n 2, 1), (27, .iload_n 2, 1), (28, .iconst (-1), 1), (29, .if_icmp .ne 5, 3), (32, .iconst 0, 1), (33, .ireturn, 1), (34, .iload_n 2, 1), (35, .iload_n 1, 1), (36, .if_icmp .eq 21, 3), (39, .aload_n 0, 1), (40, .getfield 15, 3), (43, .getfield 84, 3), (46, .bipush 38, 2), (48, .iload_n 2, 1), (49, .iadd, 1), (50, .invokestatic 88, 3), (53, .iconst (-1), 1), (54, .if_icmp .eq 12, 3), (57, .aload_n 0, 1), (58, .getfield 9, 3), (61, .iconst 3, 1), (62, .invokevirtual 80, 3), (65, .ireturn, 1), (66, .aload_n 0, 1), (67, .getfield 15, 3), (70, .getfield 84, 3), (73, .bipush 38, 2), (75, .iload_n 1, 1), (76, .iadd, 1), (77, .iload_n 2, 1), (78, .invokestatic 121, 3), (81, .aload_n 0, 1), (82, .getfield 9, 3), (85, .invokevirtual 68, 3), (88, .iconst 1, 1), (89, .ireturn, 1)]
def mc_30 : List (Nat × Instr × Nat) := [(0, .aload_n 0, 1), (1, .iconst 4, 1), (2, .invokevirtual 49, 3), (5, .istore_n 1, 1), (6, .iload_n 1, 1), (7, .iconst (-1), 1), (8, .if_icmp .ne 5, 3), (11, .iconst 0, 1), (12, .ireturn, 1), (13, .aload_n 0, 1), (14, .getfield 9, 3), (17, .aload_n 0, 1), (18, .getfield 15, 3), (21, .iconst 0, 1), (22, .invokevirtual 107, 3), (25, .istore_n 2, 1), (26, .iload_n 2, 1), (27, .iconst (-1), 1), (28, .if_icmp .ne 5, 3), (31, .iconst 0, 1), (32, .ireturn, 1), (33, .aload_n 0, 1), (34, .getfield 9, 3), (37, .iconst 0, 1), (38, .bipush 9, 2), (40, .invokevirtual 125, 3), (43, .istore_n 3, 1), (44, .iload_n 3, 1), (45, .iconst (-1), 1), (46, .if_icmp .ne 5, 3), (49, .iconst 0, 1), (50, .ireturn, 1), (51, .aload_n 0, 1), (52, .getfield 15, 3), (55, .getfield 84, 3), (58, .bipush 44, 2), (60, .iload_n 1, 1), (61, .iadd, 1), (62, .iload_n 2, 1), (63, .invokestatic 121, 3), (66, .aload_n 0, 1), (67, .getfield 15, 3), (70, .getfield 84, 3), (73, .bipush 50, 2), (75, .iload_n 1, 1), (76, .iadd, 1), (77, .iload_n 3, 1), (78, .invokestatic 121, 3), (81, .aload_n 0, 1), (82, .getfield 15, 3), (85, .getfield 84, 3), (88, .bipush 56, 2), (90, .iload_n 1, 1), (91, .iadd, 1), (92, .iconst (-1), 1), (93, .invokestatic 121, 3), (96, .iconst 1, 1), (97, .ireturn, 1)]
def mc_31 : List (Nat × Instr × Nat) := [(0, .aload_n 0, 1), (1, .getfield 9, 3), (4, .aload_n 0, 1), (5, .getfield 15, 3), (8, .iconst 4, 1), (9, .invokevirtual 111, 3), (12, .istore_n 1, 1), (13, .iload_n 1, 1), (14, .iconst (-1), 1), (15, .if_icmp .ne 5, 3), (18, .iconst 0, 1), (19, .ireturn, 1), (20, .aload_n 0, 1), (21, .getfield 15, 3), (24, .getfield 84, 3), (27, .bipush 62, 2), (29, .iload_n 1, 1), (30, .iadd, 1), (31, .invokestatic 88, 3), (34, .ifCond .le 12, 3), (37, .aload_n 0, 1), (38, .getfield 9, 3), (41, .iconst 3, 1), (42, .invokevirtual 80, 3), (45, .ireturn, 1), (46, .aload_n 0, 1), (47, .getfield 9, 3), (50, .invokevirtual 68, 3), (53, .aload_n 0, 1), (54, .iload_n 1, 1), (55, .invokevirtual 135, 3), (58, .ifCond .ne 5, 3), (61, .iconst 0, 1), (62, .ireturn, 1), (63, .iconst 0, 1), (64, .istore_n 2, 1), (65, .iload_n 2, 1), (66, .bipush 8, 2), (68, .if_icmp .gt 31, 3), (71, .aload_n 0, 1), (72, .getfield 9, 3), (75, .bipush 59, 2), (77, .invokevirtual 132, 3), (80, .ifCond .ne 19, 3), (83, .aload_n 0, 1), (84, .iload_n 1, 1), (85, .invokevirtual 135, 3), (88, .ifCond .ne 5, 3), (91, .iconst 0, 1), (92, .ireturn, 1), (93, .iinc 2 1, 3), (96, .goto (-31), 3), (99, .iconst 1, 1), (100, .ireturn, 1)]
def mc_32 : List (Nat × Instr × Nat) := [(0, .aload_n 0, 1), (1, .getfield 9, 3), (4, .aload_n 0, 1), (5, .getfield 15, 3), (8, .iconst 0, 1), (9, .invokevirtual 111, 3), (12, .istore_n 2, 1), (13, .iload_n 2, 1), (14, .iconst (-1), 1), (15, .if_icmp .ne 5, 3), (18, .iconst 0, 1), (19, .ireturn, 1), (20, .aload_n 0, 1), (21, .getfield 15, 3), (24, .getfield 84, 3), (27, .bipush 62, 2), (29, .iload_n 1, 1), (30, .iadd, 1), (31, .invokestatic 88, 3), (34, .istore_n 3, 1), (35, .iload_n 3, 1), (36, .bipush 8, 2), (38, .if_icmp .lt 12, 3), (41, .aload_n 0, 1), (42, .getfield 9, 3), (45, .iconst 4, 1), (46, .invokevirtual 80, 3), (49, .ireturn, 1), (50, .aload_n 0, 1), (51, .getfield 15, 3), (54, .getfield 84, 3), (57, .bipush 68, 2), (59, .iload_n 1, 1), (60, .bipush 8, 2), (62, .imul, 1), (63, .iadd, 1), (64, .iload_n 3, 1), (65, .iadd, 1), (66, .iload_n 2, 1), (67, .invokestatic 121, 3), (70, .aload_n 0, 1), (71, .getfield 15, 3), (74, .getfield 84, 3), (77, .bipush 62, 2), (79, .iload_n 1, 1), (80, .iadd, 1), (81, .iload_n 3, 1), (82, .iconst 1, 1), (83, .iadd, 1), (84, .invokestatic 121, 3), (87, .aload_n 0, 1), (88, .getfield 9, 3), (91, .invokevirtual 68, 3), (94, .iconst 1, 1), (95, .ireturn, 1)]
def mc_33 : List (Nat × Instr × Nat) := [(0, .aload_n 0, 1), (1, .getfield 9, 3), (4, .aload_n 0, 1), (5, .getfield 15, 3), (8, .iconst 4, 1), (9, .invokevirtual 111, 3), (12, .istore_n 1, 1), (13, .iload_n 1, 1), (14, .iconst (-1), 1), (15, .if_icmp .ne 5, 3), (18, .iconst 0, 1), (19, .ireturn, 1), (20, .aload_n 0, 1), (21, .getfield 15, 3), (24, .getfield 84, 3), (27, .bipush 56, 2), (29, .iload_n 1, 1), (30, .iadd, 1), (31, .invokestatic 88, 3), (34, .iconst (-1), 1), (35, .if_icmp .eq 12, 3), (38, .aload_n 0, 1), (39, .getfield 9, 3), (42, .iconst 3, 1), (43, .invokevirtual 80, 3), (46, .ireturn, 1), (47, .aload_n 0, 1), (48, .getfield 9, 3), (51, .invokevirtual 68, 3), (54, .aload_n 0, 1), (55, .getfield 9, 3), (58, .aload_n 0, 1), (59, .getfield 15, 3), (62, .iconst 4, 1), (63, .invokevirtual 111, 3), (66, .istore_n 2, 1), (67, .iload_n 2, 1), (68, .iconst (-1), 1), (69, .if_icmp .ne 5, 3), (72, .iconst 0, 1), (73, .ireturn, 1), (74, .iload_n 2, 1), (75, .iload_n 1, 1), (76, .if_icmp .ne 12, 3), (79, .aload_n 0, 1), (80, .getfield 9, 3), (83, .iconst 3, 1), (84, .invokevirtual 80, 3), (87, .ireturn, 1), (88, .aload_n 0, 1), (89, .getfield 15, 3), (92, .getfield 84, 3), (95, .bipush 56, 2), (97, .iload_n 1, 1), (98, .iadd, 1), (99, .iload_n 2, 1), (100, .invokestatic 121, 3), (103, .aload_n 0, 1), (104, .getfield 9, 3), (107, .invokevirtual 68, 3), (110, .iconst 1, 1), (111, .ireturn, 1)]
def mc_34 : List (Nat × Instr × Nat) := [(0, .aload_n 0, 1), (1, .getfield 9, 3), (4, .aload_n 0, 1), (5, .getfield 15, 3), (8, .iconst 3, 1), (9, .invokevirtual 107, 3), (12, .istore_n 1, 1), (13, .iload_n 1, 1), (14, .iconst (-1), 1), (15, .if_icmp .ne 5, 3), (18, .iconst 0, 1), (19, .ireturn, 1), (20, .aload_n 0, 1), (21, .getfield 9, 3), (24, .aload_n 0, 1), (25, .getfield 15, 3), (28, .iconst 0, 1), (29, .invokevirtual 111, 3), (32, .istore_n 2, 1), (33, .iload_n 2, 1), (34, .iconst (-1), 1), (35, .if_icmp .ne 5, 3), (38, .iconst 0, 1), (39, .ireturn, 1), (40, .aload_n 0, 1), (41, .getfield 15, 3), (44, .getfield 84, 3), (47, .bipush 16, 2), (49, .iload_n 2, 1), (50, .iadd, 1), (51, .invokestatic 88, 3), (54, .iload_n 1, 1), (55, .ishr, 1), (56, .iconst 1, 1), (57, .iand, 1), (58, .iconst 1, 1), (59, .if_icmp .ne 12, 3), (62, .aload_n 0, 1), (63, .getfield 9, 3), (66, .iconst 3, 1), (67, .invokevirtual 80, 3), (70, .ireturn, 1), (71, .aload_n 0, 1), (72, .getfield 15, 3), (75, .bipush 16, 2), (77, .iload_n 2, 1), (78, .iadd, 1), (79, .iconst 1, 1), (80, .iload_n 1, 1), (81, .ishl, 1), (82, .invokevirtual 117, 3), (85, .aload_n 0, 1), (86, .getfield 9, 3), (89, .invokevirtual 68, 3), (92, .iconst 1, 1), (93, .ireturn, 1)]
def mc_35 : List (Nat × Instr × Nat) := [(0, .aload_n 0, 1), (1, .invokespecial 5, 3), (4, .aload_n 0, 1), (5, .aload_n 1, 1), (6, .putfield 11, 3), (9, .aload_n 0, 1), (10, .bipush 114, 2), (12, .newarray .int, 2), (14, .putfield 15, 3), (17, .return_, 1)]
def mc_36 : List (Nat × Instr × Nat) := [(0, .aload_n 1, 1), (1, .getfield 15, 3), (4, .aload_n 0, 1), (5, .getfield 15, 3), (8, .invokestatic 18, 3), (11, .return_, 1)]
def mc_37 : List (Nat × Instr × Nat) := [(0, .iconst 0, 1), (1, .istore_n 1, 1), (2, .iload_n 1, 1), (3, .aload_n 0, 1), (4, .getfield 15, 3), (7, .arraylength, 1), (8, .if_icmp .ge 16, 3), (11, .aload_n 0, 1), (12, .getfield 15, 3), (15, .iload_n 1, 1), (16, .iconst 0, 1), (17, .iastore, 1), (18, .iinc 1 1, 3), (21, .goto (-19), 3), (24, .iconst 0, 1), (25, .istore_n 1, 1), (26, .iload_n 1, 1), (27, .aload_n 0, 1), (28, .getfield 11, 3), (31, .iconst 0, 1), (32, .invokestatic 24, 3), (35, .if_icmp .ge 31, 3), (38, .aload_n 0, 1), (39, .getfield 15, 3), (42, .bipush 104, 2), (44, .iload_n 1, 1), (45, .iadd, 1), (46, .aload_n 0, 1), (47, .getfield 11, 3), (50, .bipush 16, 2), (52, .iload_n 1, 1), (53, .iadd, 1), (54, .invokestatic 24, 3), (57, .invokestatic 28, 3), (60, .iinc 1 1, 3), (63, .goto (-37), 3), (66, .iconst 0, 1), (67, .istore_n 1, 1), (68, .iload_n 1, 1), (69, .aload_n 0, 1), (70, .getfield 11, 3), (73, .iconst 4, 1), (74, .invokestatic 24, 3), (77, .if_icmp .ge 30, 3), (80, .aload_n 0, 1), (81, .getfield 15, 3), (84, .iconst 2, 1), (85, .iload_n 1, 1), (86, .iadd, 1), (87, .aload_n 0, 1), (88, .getfield 11, 3), (91, .bipush 44, 2), (93, .iload_n 1, 1), (94, .iadd, 1), (95, .invokestatic 24, 3), (98, .invokestatic 28, 3), (101, .iinc 1 1, 3), (104, .goto (-36), 3), (107, .iconst 0, 1), (108, .istore_n 1, 1), (109, .iload_n 1, 1), (110, .aload_n 0, 1), (111, .getfield 11, 3), (114, .iconst 4, 1), (115, .invokestatic 24, 3), (118, .if_icmp .ge 14, 3), (121, .aload_n 0, 1), (122, .iload_n 1, 1), (123, .invokevirtual 32, 3), (126, .iinc 1 1, 3), (129, .goto (-20), 3), (132, .return_, 1)]
def mc_38 : List (Nat × Instr × Nat) := [(0, .aload_n 0, 1), (1, .getfield 15, 3), (4, .iconst 0, 1), (5, .invokestatic 24, 3), (8, .ireturn, 1)]
def mc_39 : List (Nat × Instr × Nat) := [(0, .aload_n 0, 1), (1, .getfield 15, 3), (4, .bipush 32, 2), (6, .iload_n 1, 1), (7, .bipush 6, 2), (9, .imul, 1), (10, .iadd, 1), (11, .iload_n 2, 1), (12, .iadd, 1), (13, .invokestatic 24, 3), (16, .ireturn, 1)]
def mc_40 : List (Nat × Instr × Nat) := [(0, .aload_n 0, 1), (1, .getfield 15, 3), (4, .bipush 68, 2), (6, .iload_n 1, 1), (7, .bipush 6, 2), (9, .imul, 1), (10, .iadd, 1), (11, .iload_n 2, 1), (12, .iadd, 1), (13, .invokestatic 24, 3), (16, .ireturn, 1)]
def mc_41 : List (Nat × Instr × Nat) := [(0, .aload_n 0, 1), (1, .getfield 15, 3), (4, .bipush 8, 2), (6, .iload_n 1, 1), (7, .iadd, 1), (8, .invokestatic 24, 3), (11, .iconst 1, 1), (12, .if_icmp .ne 4, 3), (15, .return_, 1), (16, .aload_n 0, 1), (17, .getfield 15, 3), (20, .bipush 104, 2), (22, .aload_n 0, 1), (23, .getfield 15, 3), (26, .iconst 2, 1), (27, .iload_n 1, 1), (28, .iadd, 1), (29, .invokestatic 24, 3), (32, .iadd, 1), (33, .invokestatic 24, 3), (36, .istore_n 2, 1), (37, .iconst 0, 1), (38, .istore_n 3, 1), (39, .iload_n 3, 1), (40, .bipush 6, 2), (42, .if_icmp .ge 30, 3), (45, .iload_n 2, 1), (46, .iload_n 3, 1), (47, .ishr, 1), (48, .ifCond .eq 24, 3), (51, .iload_n 2, 1), (52, .iload_n 3, 1), (53, .ishr, 1), (54, .iconst 1, 1), (55, .iand, 1), (56, .iconst 1, 1), (57, .if_icmp .ne 9, 3), (60, .aload_n 0, 1), (61, .iload_n 1, 1), (62, .iload_n 3, 1), (63, .invokevirtual 36, 3), (66, .iinc 3 1, 3), (69, .goto (-30), 3), (72, .return_, 1)]
def mc_42 : List (Nat × Instr × Nat) := [(0, .iload_n 1, 1), (1, .bipush 6, 2), (3, .imul, 1), (4, .iload_n 2, 1), (5, .iadd, 1), (6, .istore_n 3, 1), (7, .aload_n 0, 1), (8, .getfield 15, 3), (11, .bipush 32, 2), (13, .iload_n 3, 1), (14, .iadd, 1), (15, .invokestatic 24, 3), (18, .aload_n 0, 1), (19, .getfield 11, 3), (22, .bipush 50, 2), (24, .iload_n 1, 1), (25, .iadd, 1), (26, .invokestatic 24, 3), (29, .iadd, 1), (30, .istore 4, 2), (32, .iload 4, 2), (34, .aload_n 0, 1), (35, .getfield 11, 3), (38, .bipush 26, 2), (40, .iload_n 2, 1), (41, .iadd, 1), (42, .invokestatic 24, 3), (45, .invokestatic 40, 3), (48, .istore 4, 2), (50, .aload_n 0, 1), (51, .getfield 15, 3), (54, .bipush 32, 2), (56, .iload_n 3, 1), (57, .iadd, 1), (58, .iload 4, 2), (60, .invokestatic 28, 3), (63, .aload_n 0, 1), (64, .getfield 15, 3), (67, .bipush 68, 2), (69, .iload_n 3, 1), (70, .iadd, 1), (71, .aload_n 0, 1), (72, .getfield 15, 3), (75, .iconst 0, 1), (76, .invokestatic 24, 3), (79, .invokestatic 28, 3), (82, .aload_n 0, 1), (83, .getfield 11, 3), (86, .bipush 56, 2), (88, .iload_n 1, 1), (89, .iadd, 1), (90, .invokestatic 24, 3), (93, .istore 5, 2), (95, .iload 5, 2), (97, .iconst (-1), 1), (98, .if_icmp .eq 61, 3), (101, .iload 5, 2), (103, .bipush 6, 2), (105, .imul, 1), (106, .iload_n 2, 1), (107, .iadd, 1), (108, .istore 6, 2), (110, .aload_n 0, 1), (111, .getfield 15, 3), (114, .bipush 32, 2), (116, .iload 6, 2), (118, .iadd, 1), (119, .iload 4, 2), (121, .aload_n 0, 1), (122, .getfield 15, 3), (125, .bipush 32, 2), (127, .iload 6, 2), (129, .iadd, 1), (130, .invokestatic 24, 3), (133, .invokestatic 46, 3), (136, .invokestatic 28, 3), (139, .aload_n 0, 1), (140, .getfield 15, 3), (143, .bipush 68, 2), (145, .iload 6, 2), (147, .iadd, 1), (148, .aload_n 0, 1), (149, .getfield 15, 3), (152, .iconst 0, 1), (153, .invokestatic 24, 3), (156, .invokestatic 28, 3), (159, .return_, 1)]
def mc_43 : List (Nat × Instr × Nat) := [(0, .iload_n 1, 1), (1, .tableswitch 136 9 15 #[43, 50, 60, 72, 86, 100, 116], 43), (44, .aload_n 0, 1), (45, .iload_n 2, 1), (46, .iload_n 3, 1), (47, .invokevirtual 49, 3), (50, .ireturn, 1), (51, .aload_n 0, 1), (52, .iload_n 2, 1), (53, .invokevirtual 52, 3), (56, .iload_n 3, 1), (57, .ishr, 1), (58, .iconst 1, 1), (59, .iand, 1), (60, .ireturn, 1), (61, .aload_n 0, 1), (62, .getfield 15, 3), (65, .bipush 8, 2), (67, .iload_n 2, 1), (68, .iadd, 1), (69, .invokestatic 24, 3), (72, .ireturn, 1), (73, .iconst 1, 1), (74, .aload_n 0, 1), (75, .getfield 15, 3), (78, .bipush 8, 2), (80, .iload_n 2, 1), (81, .iadd, 1), (82, .invokestatic 24, 3), (85, .isub, 1), (86, .ireturn, 1), (87, .aload_n 0, 1), (88, .iload_n 2, 1), (89, .invokevirtual 56, 3), (92, .ifCond .ne 7, 3), (95, .iconst 1, 1), (96, .goto 4, 3), (99, .iconst 0, 1), (100, .ireturn, 1), (101, .aload_n 0, 1), (102, .getfield 15, 3), (105, .bipush 104, 2), (107, .iload_n 3, 1), (108, .iadd, 1), (109, .invokestatic 24, 3), (112, .iload_n 2, 1), (113, .ishr, 1), (114, .iconst 1, 1), (115, .iand, 1), (116, .ireturn, 1), (117, .aload_n 0, 1), (118, .getfield 15, 3), (121, .bipush 104, 2), (123, .iload_n 2, 1), (124, .iadd, 1), (125, .invokestatic 24, 3), (128, .ifCond .ne 7, 3), (131, .iconst 1, 1), (132, .goto 4, 3), (135, .iconst 0, 1), (136, .ireturn, 1), (137, .sipush 400, 3), (140, .aload_n 0, 1), (141, .invokevirtual 59, 3), (144, .isub, 1), (145, .iload_n 2, 1), (146, .if_icmp .ge 7, 3), (149, .iconst 1, 1), (150, .goto 4, 3), (153, .iconst 0, 1), (154, .ireturn, 1)]
def mc_44 : List (Nat × Instr × Nat) := [(0, .aload_n 0, 1), (1, .getfield 15, 3), (4, .bipush 14, 2), (6, .iload_n 1, 1), (7, .iadd, 1), (8, .invokestatic 24, 3), (11, .iconst 1, 1), (12, .if_icmp .ne 5, 3), (15, .iconst 1, 1), (16, .ireturn, 1), (17, .aload_n 0, 1), (18, .iload_n 1, 1), (19, .iload_n 2, 1), (20, .invokevirtual 63, 3), (23, .ifCond .eq 7, 3), (26, .iconst 0, 1), (27, .goto 4, 3), (30, .iconst 2, 1), (31, .ireturn, 1)]
def mc_45 : List (Nat × Instr × Nat) := [(0, .aload_n 0, 1), (1, .getfield 11, 3), (4, .bipush 6, 2), (6, .aload_n 0, 1), (7, .getfield 15, 3), (10, .iconst 2, 1), (11, .iload_n 1, 1), (12, .iadd, 1), (13, .invokestatic 24, 3), (16, .iadd, 1), (17, .invokestatic 24, 3), (20, .iload_n 2, 1), (21, .ishr, 1), (22, .iconst 1, 1), (23, .iand, 1), (24, .iconst 1, 1), (25, .if_icmp .ne 7, 3), (28, .iconst 1, 1), (29, .goto 4, 3), (32, .iconst 0, 1), (33, .ireturn, 1)]
def mc_46 : List (Nat × Instr × Nat) := [(0, .iload_n 1, 1), (1, .tableswitch 149 9 14 #[39, 70, 97, 112, 132, 140], 39), (40, .aload_n 0, 1), (41, .getfield 15, 3), (44, .bipush 14, 2), (46, .iload_n 2, 1), (47, .iadd, 1), (48, .iconst 1, 1), (49, .invokestatic 28, 3), (52, .aload_n 0, 1), (53, .getfield 15, 3), (56, .iconst 2, 1), (57, .iload_n 2, 1), (58, .iadd, 1), (59, .iload_n 3, 1), (60, .invokestatic 28, 3), (63, .aload_n 0, 1), (64, .iload_n 2, 1), (65, .invokevirtual 32, 3), (68, .goto 112, 3), (71, .aload_n 0, 1), (72, .getfield 15, 3), (75, .bipush 20, 2), (77, .iload_n 2, 1), (78, .iadd, 1), (79, .aload_n 0, 1), (80, .getfield 15, 3), (83, .bipush 20, 2), (85, .iload_n 2, 1), (86, .iadd, 1), (87, .invokestatic 24, 3), (90, .iconst 1, 1), (91, .iadd, 1), (92, .invokestatic 28, 3), (95, .goto 85, 3), (98, .aload_n 0, 1), (99, .getfield 15, 3), (102, .bipush 8, 2), (104, .iload_n 2, 1), (105, .iadd, 1), (106, .iconst 1, 1), (107, .invokestatic 28, 3), (110, .goto 70, 3), (113, .aload_n 0, 1), (114, .getfield 15, 3), (117, .bipush 8, 2), (119, .iload_n 2, 1), (120, .iadd, 1), (121, .iconst 0, 1), (122, .invokestatic 28, 3), (125, .aload_n 0, 1), (126, .iload_n 2, 1), (127, .invokevirtual 32, 3), (130, .goto 50, 3), (133, .aload_n 0, 1), (134, .iload_n 2, 1), (135, .invokevirtual 67, 3), (138, .goto 42, 3), (141, .aload_n 0, 1), (142, .iload_n 2, 1), (143, .iload_n 3, 1), (144, .invokevirtual 70, 3), (147, .goto 33, 3), (150, .aload_n 0, 1), (151, .getfield 15, 3), (154, .bipush 104, 2), (156, .iload_n 2, 1), (157, .iadd, 1), (158, .iconst 0, 1), (159, .invokestatic 28, 3), (162, .aload_n 0, 1), (163, .getfield 15, 3), (166, .iconst 1, 1), (167, .aload_n 0, 1), (168, .getfield 15, 3), (171, .iconst 1, 1), (172, .invokestatic 24, 3), (175, .iconst 1, 1), (176, .iadd, 1), (177, .invokestatic 28, 3), (180, .return_, 1)]
def mc_47 : List (Nat × Instr × Nat) := [(0, .iconst 0, 1), (1, .istore_n 2, 1), (2, .iload_n 2, 1), (3, .aload_n 0, 1), (4, .getfield 11, 3), (7, .iconst 3, 1), (8, .invokestatic 24, 3), (11, .if_icmp .ge 26, 3), (14, .aload_n 0, 1), (15, .getfield 15, 3), (18, .bipush 32, 2), (20, .iload_n 1, 1), (21, .bipush 6, 2), (23, .imul, 1), (24, .iadd, 1), (25, .iload_n 2, 1), (26, .iadd, 1), (27, .iconst 0, 1), (28, .invokestatic 28, 3), (31, .iinc 2 1, 3), (34, .goto (-32), 3), (37, .return_, 1)]
def mc_48 : List (Nat × Instr × Nat) := [(0, .aload_n 0, 1), (1, .getfield 15, 3), (4, .bipush 104, 2), (6, .iload_n 2, 1), (7, .iadd, 1), (8, .aload_n 0, 1), (9, .getfield 15, 3), (12, .bipush 104, 2), (14, .iload_n 2, 1), (15, .iadd, 1), (16, .invokestatic 24, 3), (19, .iconst 1, 1), (20, .iload_n 1, 1), (21, .ishl, 1), (22, .ior, 1), (23, .invokestatic 28, 3), (26, .iconst 0, 1), (27, .istore_n 3, 1), (28, .iload_n 3, 1), (29, .aload_n 0, 1), (30, .getfield 11, 3), (33, .iconst 4, 1), (34, .invokestatic 24, 3), (37, .if_icmp .ge 43, 3), (40, .aload_n 0, 1), (41, .getfield 15, 3), (44, .iconst 2, 1), (45, .iload_n 3, 1), (46, .iadd, 1), (47, .invokestatic 24, 3), (50, .iload_n 2, 1), (51, .if_icmp .ne 23, 3), (54, .aload_n 0, 1), (55, .getfield 15, 3), (58, .bipush 8, 2), (60, .iload_n 3, 1), (61, .iadd, 1), (62, .invokestatic 24, 3), (65, .ifCond .ne 9, 3), (68, .aload_n 0, 1), (69, .iload_n 3, 1), (70, .iload_n 1, 1), (71, .invokevirtual 36, 3), (74, .iinc 3 1, 3), (77, .goto (-49), 3), (80, .return_, 1)]
def mc_49 : List (Nat × Instr × Nat) := [(0, .aload_n 0, 1), (1, .getfield 11, 3), (4, .iconst 4, 1), (5, .invokestatic 24, 3), (8, .istore_n 2, 1), (9, .iconst 0, 1), (10, .istore_n 3, 1), (11, .iload_n 3, 1), (12, .iload_n 1, 1), (13, .if_icmp .ge 86, 3), (16, .aload_n 0, 1), (17, .invokevirtual 59, 3), (20, .sipush 400, 3), (23, .if_icmp .ge 76, 3), (26, .aload_n 0, 1), (27, .invokevirtual 73, 3), (30, .aload_n 0, 1), (31, .getfield 15, 3), (34, .iconst 0, 1), (35, .aload_n 0, 1), (36, .invokevirtual 59, 3), (39, .iconst 1, 1), (40, .iadd, 1), (41, .invokestatic 28, 3), (44, .iconst 0, 1), (45, .istore 4, 2), (47, .iload 4, 2), (49, .iload_n 2, 1), (50, .if_icmp .ge 22, 3), (53, .aload_n 0, 1), (54, .getfield 15, 3), (57, .bipush 14, 2), (59, .iload 4, 2), (61, .iadd, 1), (62, .iconst 0, 1), (63, .invokestatic 28, 3), (66, .iinc 4 1, 3), (69, .goto (-22), 3), (72, .iconst 0, 1), (73, .istore 4, 2), (75, .iload 4, 2), (77, .iload_n 2, 1), (78, .if_icmp .ge 15, 3), (81, .aload_n 0, 1), (82, .iload 4, 2), (84, .invokevirtual 76, 3), (87, .iinc 4 1, 3), (90, .goto (-15), 3), (93, .iinc 3 1, 3), (96, .goto (-85), 3), (99, .return_, 1)]
def mc_50 : List (Nat × Instr × Nat) := [(0, .aload_n 0, 1), (1, .invokevirtual 59, 3), (4, .bipush 9, 2), (6, .isub, 1), (7, .istore_n 1, 1), (8, .iload_n 1, 1), (9, .ifCond .ge 4, 3), (12, .return_, 1), (13, .aload_n 0, 1), (14, .getfield 11, 3), (17, .iconst 3, 1), (18, .invokestatic 24, 3), (21, .istore_n 2, 1), (22, .aload_n 0, 1), (23, .getfield 11, 3), (26, .iconst 4, 1), (27, .invokestatic 24, 3), (30, .istore_n 3, 1), (31, .iconst 0, 1), (32, .istore 4, 2), (34, .iload 4, 2), (36, .iload_n 3, 1), (37, .if_icmp .ge 65, 3), (40, .iconst 0, 1), (41, .istore 5, 2), (43, .iload 5, 2), (45, .iload_n 2, 1), (46, .if_icmp .ge 50, 3), (49, .aload_n 0, 1), (50, .getfield 15, 3), (53, .bipush 68, 2), (55, .iload 4, 2), (57, .bipush 6, 2), (59, .imul, 1), (60, .iadd, 1), (61, .iload 5, 2), (63, .iadd, 1), (64, .invokestatic 24, 3), (67, .iload_n 1, 1), (68, .if_icmp .gt 22, 3), (71, .aload_n 0, 1), (72, .getfield 15, 3), (75, .bipush 32, 2), (77, .iload 4, 2), (79, .bipush 6, 2), (81, .imul, 1), (82, .iadd, 1), (83, .iload 5, 2), (85, .iadd, 1), (86, .iconst 0, 1), (87, .invokestatic 28, 3), (90, .iinc 5 1, 3), (93, .goto (-50), 3), (96, .iinc 4 1, 3), (99, .goto (-65), 3), (102, .return_, 1)]
def mc_51 : List (Nat × Instr × Nat) := [(0, .aload_n 0, 1), (1, .getfield 11, 3), (4, .bipush 62, 2), (6, .iload_n 1, 1), (7, .iadd, 1), (8, .invokestatic 24, 3), (11, .istore_n 2, 1), (12, .iload_n 2, 1), (13, .ifCond .ne 4, 3), (16, .return_, 1), (17, .aload_n 0, 1), (18, .getfield 15, 3), (21, .bipush 26, 2), (23, .iload_n 1, 1), (24, .iadd, 1), (25, .invokestatic 24, 3), (28, .istore_n 3, 1), (29, .aload_n 0, 1), (30, .getfield 11, 3), (33, .bipush 68, 2), (35, .iload_n 1, 1), (36, .bipush 8, 2), (38, .imul, 1), (39, .iadd, 1), (40, .iload_n 3, 1), (41, .iadd, 1), (42, .invokestatic 24, 3), (45, .istore 4, 2), (47, .aload_n 0, 1), (48, .getfield 15, 3), (51, .bipush 26, 2), (53, .iload_n 1, 1), (54, .iadd, 1), (55, .iload_n 3, 1), (56, .iconst 1, 1), (57, .iadd, 1), (58, .iload_n 2, 1), (59, .if_icmp .ge 9, 3), (62, .iload_n 3, 1), (63, .iconst 1, 1), (64, .iadd, 1), (65, .goto 4, 3), (68, .iconst 0, 1), (69, .invokestatic 28, 3), (72, .aload_n 0, 1), (73, .iload_n 1, 1), (74, .iload 4, 2), (76, .invokevirtual 63, 3), (79, .ifCond .ne 18, 3), (82, .aload_n 0, 1), (83, .getfield 15, 3), (86, .iconst 2, 1), (87, .iload_n 1, 1), (88, .iadd, 1), (89, .invokestatic 24, 3), (92, .iload 4, 2), (94, .if_icmp .ne 20, 3), (97, .aload_n 0, 1), (98, .getfield 15, 3), (101, .iconst 2, 1), (102, .iload_n 1, 1), (103, .iadd, 1), (104, .iload 4, 2), (106, .invokestatic 28, 3), (109, .aload_n 0, 1), (110, .iload_n 1, 1), (111, .invokevirtual 32, 3), (114, .return_, 1)]
def mc_52 : List (Nat × Instr × Nat) := [(0, .aload_n 0, 1), (1, .iload_n 2, 1), (2, .putfield 79, 3), (5, .iconst 0, 1), (6, .istore_n 3, 1), (7, .iload_n 3, 1), (8, .iload_n 1, 1), (9, .if_icmp .ge 95, 3), (12, .aload_n 0, 1), (13, .invokevirtual 59, 3), (16, .sipush 400, 3), (19, .if_icmp .ge 85, 3), (22, .aload_n 0, 1), (23, .iconst 4, 1), (24, .invokevirtual 83, 3), (27, .ifCond .ne 38, 3), (30, .aload_n 0, 1), (31, .aload_n 0, 1), (32, .getfield 11, 3), (35, .iconst 0, 1), (36, .invokestatic 24, 3), (39, .invokevirtual 83, 3), (42, .istore 4, 2), (44, .aload_n 0, 1), (45, .bipush 15, 2), (47, .iload 4, 2), (49, .iconst 0, 1), (50, .invokevirtual 86, 3), (53, .ifCond .ne 12, 3), (56, .aload_n 0, 1), (57, .bipush 15, 2), (59, .iload 4, 2), (61, .iconst 0, 1), (62, .invokevirtual 90, 3), (65, .iconst 0, 1), (66, .istore 4, 2), (68, .iload 4, 2), (70, .aload_n 0, 1), (71, .getfield 11, 3), (74, .iconst 4, 1), (75, .invokestatic 24, 3), (78, .if_icmp .ge 15, 3), (81, .aload_n 0, 1), (82, .iload 4, 2), (84, .invokevirtual 94, 3), (87, .iinc 4 1, 3), (90, .goto (-22), 3), (93, .aload_n 0, 1), (94, .iconst 1, 1), (95, .invokevirtual 97, 3), (98, .iinc 3 1, 3), (101, .goto (-94), 3), (104, .return_, 1)]
def mc_53 : List (Nat × Instr × Nat) := [(0, .aload_n 0, 1), (1, .bipush 20, 2), (3, .invokevirtual 83, 3), (6, .ifCond .ne 25, 3), (9, .aload_n 0, 1), (10, .bipush 13, 2), (12, .iload_n 1, 1), (13, .iconst 0, 1), (14, .invokevirtual 86, 3), (17, .ifCond .ne 54, 3), (20, .aload_n 0, 1), (21, .bipush 13, 2), (23, .iload_n 1, 1), (24, .iconst 0, 1), (25, .invokevirtual 90, 3), (28, .goto 43, 3), (31, .aload_n 0, 1), (32, .iconst 3, 1), (33, .invokevirtual 83, 3), (36, .ifCond .ne 35, 3), (39, .aload_n 0, 1), (40, .aload_n 0, 1), (41, .getfield 11, 3), (44, .iconst 0, 1), (45, .invokestatic 24, 3), (48, .invokevirtual 83, 3), (51, .istore_n 2, 1), (52, .aload_n 0, 1), (53, .bipush 9, 2), (55, .iload_n 1, 1), (56, .iload_n 2, 1), (57, .invokevirtual 86, 3), (60, .ifCond .ne 11, 3), (63, .aload_n 0, 1), (64, .bipush 9, 2), (66, .iload_n 1, 1), (67, .iload_n 2, 1), (68, .invokevirtual 90, 3), (71, .return_, 1)]
def mc_54 : List (Nat × Instr × Nat) := [(0, .aload_n 0, 1), (1, .aload_n 0, 1), (2, .getfield 79, 3), (5, .ldc 100, 2), (7, .imul, 1), (8, .sipush 12345, 3), (11, .iadd, 1), (12, .putfield 79, 3), (15, .iload_n 1, 1), (16, .ifCond .le 15, 3), (19, .aload_n 0, 1), (20, .getfield 79, 3), (23, .bipush 8, 2), (25, .iushr, 1), (26, .iload_n 1, 1), (27, .irem, 1), (28, .goto 4, 3), (31, .iconst 0, 1), (32, .ireturn, 1)]
def mc_55 : List (Nat × Instr × Nat) := [(0, .aload_n 0, 1), (1, .getfield 15, 3), (4, .bipush 32, 2), (6, .iload_n 1, 1), (7, .bipush 6, 2), (9, .imul, 1), (10, .iadd, 1), (11, .iload_n 2, 1), (12, .iadd, 1), (13, .invokestatic 24, 3), (16, .istore_n 3, 1), (17, .aload_n 0, 1), (18, .getfield 11, 3), (21, .bipush 26, 2), (23, .iload_n 2, 1), (24, .iadd, 1), (25, .invokestatic 24, 3), (28, .istore 4, 2), (30, .iload_n 3, 1), (31, .iload 4, 2), (33, .if_icmp .lt 5, 3), (36, .iconst 2, 1), (37, .ireturn, 1), (38, .iconst 2, 1), (39, .iload_n 3, 1), (40, .imul, 1), (41, .iload 4, 2), (43, .if_icmp .lt 7, 3), (46, .iconst 1, 1), (47, .goto 4, 3), (50, .iconst 0, 1), (51, .ireturn, 1)]
def mc_56 : List (Nat × Instr × Nat) := [(0, .iconst 0, 1), (1, .istore_n 2, 1), (2, .aload_n 0, 1), (3, .getfield 11, 3), (6, .iconst 3, 1), (7, .invokestatic 24, 3), (10, .istore_n 3, 1), (11, .iconst 0, 1), (12, .istore 4, 2), (14, .iload 4, 2), (16, .iload_n 3, 1), (17, .if_icmp .ge 48, 3), (20, .aload_n 0, 1), (21, .getfield 15, 3), (24, .bipush 32, 2), (26, .iload_n 1, 1), (27, .bipush 6, 2), (29, .imul, 1), (30, .iadd, 1), (31, .iload 4, 2), (33, .iadd, 1), (34, .invokestatic 24, 3), (37, .aload_n 0, 1), (38, .getfield 11, 3), (41, .bipush 26, 2), (43, .iload 4, 2), (45, .iadd, 1), (46, .invokestatic 24, 3), (49, .if_icmp .lt 10, 3), (52, .iload_n 2, 1), (53, .iconst 1, 1), (54, .iload 4, 2), (56, .ishl, 1), (57, .ior, 1), (58, .istore_n 2, 1), (59, .iinc 4 1, 3), (62, .goto (-48), 3), (65, .iload_n 2, 1), (66, .ireturn, 1)]
def mc_57 : List (Nat × Instr × Nat) := [(0, .iconst 0, 1), (1, .istore_n 2, 1), (2, .iconst 0, 1), (3, .istore_n 3, 1), (4, .iload_n 3, 1), (5, .bipush 6, 2), (7, .if_icmp .ge 54, 3), (10, .iload_n 1, 1), (11, .iload_n 3, 1), (12, .ishr, 1), (13, .ifCond .eq 48, 3), (16, .iload_n 1, 1), (17, .iload_n 3, 1), (18, .ishr, 1), (19, .iconst 1, 1), (20, .iand, 1), (21, .iconst 1, 1), (22, .if_icmp .ne 17, 3), (25, .aload_n 0, 1), (26, .getfield 11, 3), (29, .bipush 38, 2), (31, .iload_n 3, 1), (32, .iadd, 1), (33, .invokestatic 24, 3), (36, .goto 4, 3), (39, .iconst (-1), 1), (40, .istore 4, 2), (42, .iload 4, 2), (44, .iconst (-1), 1), (45, .if_icmp .eq 10, 3), (48, .iload_n 2, 1), (49, .iconst 1, 1), (50, .iload 4, 2), (52, .ishl, 1), (53, .ior, 1), (54, .istore_n 2, 1), (55, .iinc 3 1, 3), (58, .goto (-54), 3), (61, .iload_n 2, 1), (62, .ireturn, 1)]
def mc_58 : List (Nat × Instr × Nat) := [(0, .aload_n 0, 1), (1, .iload_n 1, 1), (2, .invokevirtual 101, 3), (5, .istore_n 2, 1), (6, .iload_n 2, 1), (7, .aload_n 0, 1), (8, .iload_n 2, 1), (9, .invokevirtual 104, 3), (12, .iand, 1), (13, .ireturn, 1)]
def mc_59 : List (Nat × Instr × Nat) := [(0, .aload_n 0, 1), (1, .aload_n 0, 1), (2, .iload_n 1, 1), (3, .invokevirtual 101, 3), (6, .invokevirtual 104, 3), (9, .istore_n 2, 1), (10, .aload_n 0, 1), (11, .invokevirtual 59, 3), (14, .iconst 2, 1), (15, .irem, 1), (16, .ifCond .ne 7, 3), (19, .iconst 1, 1), (20, .goto 4, 3), (23, .iconst 2, 1), (24, .istore_n 3, 1), (25, .iconst 0, 1), (26, .istore 4, 2), (28, .aload_n 0, 1), (29, .getfield 11, 3), (32, .iconst 3, 1), (33, .invokestatic 24, 3), (36, .istore 5, 2), (38, .iconst 0, 1), (39, .istore 6, 2), (41, .iload 6, 2), (43, .iload 5, 2), (45, .if_icmp .ge 54, 3), (48, .aload_n 0, 1), (49, .getfield 11, 3), (52, .bipush 38, 2), (54, .iload 6, 2), (56, .iadd, 1), (57, .invokestatic 24, 3), (60, .iconst (-1), 1), (61, .if_icmp .ne 32, 3), (64, .iload_n 2, 1), (65, .iload 6, 2), (67, .ishr, 1), (68, .iconst 1, 1), (69, .iand, 1), (70, .ifCond .ne 23, 3), (73, .aload_n 0, 1), (74, .iload_n 1, 1), (75, .iload 6, 2), (77, .invokevirtual 107, 3), (80, .iload_n 3, 1), (81, .if_icmp .lt 12, 3), (84, .iload 4, 2), (86, .iconst 1, 1), (87, .iload 6, 2), (89, .ishl, 1), (90, .ior, 1), (91, .istore 4, 2), (93, .iinc 6 1, 3), (96, .goto (-55), 3), (99, .iload 4, 2), (101, .ireturn, 1)]
def mc_60 : List (Nat × Instr × Nat) := [(0, .aload_n 0, 1), (1, .iload_n 1, 1), (2, .invokevirtual 110, 3), (5, .istore_n 2, 1), (6, .iconst 0, 1), (7, .istore_n 3, 1), (8, .iconst 0, 1), (9, .istore 4, 2), (11, .iload 4, 2), (13, .bipush 6, 2), (15, .if_icmp .ge 41, 3), (18, .iload_n 2, 1), (19, .iload 4, 2), (21, .ishr, 1), (22, .ifCond .eq 34, 3), (25, .iload_n 2, 1), (26, .iload 4, 2), (28, .ishr, 1), (29, .iconst 1, 1), (30, .iand, 1), (31, .iconst 1, 1), (32, .if_icmp .ne 18, 3), (35, .iload_n 3, 1), (36, .aload_n 0, 1), (37, .getfield 11, 3), (40, .bipush 32, 2), (42, .iload 4, 2), (44, .iadd, 1), (45, .invokestatic 24, 3), (48, .ior, 1), (49, .istore_n 3, 1), (50, .iinc 4 1, 3), (53, .goto (-42), 3), (56, .iload_n 3, 1), (57, .ireturn, 1)]
def mc_61 : List (Nat × Instr × Nat) := [(0, .iconst 0, 1), (1, .istore_n 2, 1), (2, .iconst 0, 1), (3, .istore_n 3, 1), (4, .iload_n 3, 1), (5, .aload_n 0, 1), (6, .getfield 11, 3), (9, .iconst 4, 1), (10, .invokestatic 24, 3), (13, .if_icmp .ge 23, 3), (16, .iload_n 2, 1), (17, .aload_n 0, 1), (18, .iload_n 3, 1), (19, .invokevirtual 110, 3), (22, .iload_n 1, 1), (23, .ishr, 1), (24, .iconst 1, 1), (25, .iand, 1), (26, .iload_n 3, 1), (27, .ishl, 1), (28, .ior, 1), (29, .istore_n 2, 1), (30, .iinc 3 1, 3), (33, .goto (-29), 3), (36, .iload_n 2, 1), (37, .ireturn, 1)]
def mc_62 : List (Nat × Instr × Nat) := [(0, .iconst 0, 1), (1, .istore_n 1, 1), (2, .iconst 0, 1), (3, .istore_n 2, 1), (4, .iload_n 2, 1), (5, .aload_n 0, 1), (6, .getfield 11, 3), (9, .iconst 4, 1), (10, .invokestatic 24, 3), (13, .if_icmp .ge 23, 3), (16, .aload_n 0, 1), (17, .iload_n 2, 1), (18, .invokevirtual 110, 3), (21, .ifCond .ne 9, 3), (24, .iload_n 1, 1), (25, .iconst 1, 1), (26, .iload_n 2, 1), (27, .ishl, 1), (28, .ior, 1), (29, .istore_n 1, 1), (30, .iinc 2 1, 3), (33, .goto (-29), 3), (36, .iload_n 1, 1), (37, .ireturn, 1)]
def mc_63 : List (Nat × Instr × Nat) := [(0, .iconst 0, 1), (1, .istore_n 2, 1), (2, .iconst 0, 1), (3, .istore_n 3, 1), (4, .iload_n 3, 1), (5, .aload_n 0, 1), (6, .getfield 11, 3), (9, .iconst 3, 1), (10, .invokestatic 24, 3), (13, .if_icmp .ge 18, 3), (16, .iload_n 2, 1), (17, .aload_n 0, 1), (18, .iload_n 1, 1), (19, .iload_n 3, 1), (20, .invokevirtual 113, 3), (23, .iadd, 1), (24, .istore_n 2, 1), (25, .iinc 3 1, 3), (28, .goto (-24), 3), (31, .iload_n 2, 1), (32, .ireturn, 1)]
def mc_64 : List (Nat × Instr × Nat) := [(0, .iconst 0, 1), (1, .istore_n 1, 1), (2, .iconst 0, 1), (3, .istore_n 2, 1), (4, .iload_n 2, 1), (5, .aload_n 0, 1), (6, .getfield 11, 3), (9, .iconst 0, 1), (10, .invokestatic 24, 3), (13, .if_icmp .ge 26, 3), (16, .iload_n 1, 1), (17, .aload_n 0, 1), (18, .getfield 15, 3), (21, .bipush 104, 2), (23, .iload_n 2, 1), (24, .iadd, 1), (25, .invokestatic 24, 3), (28, .invokestatic 116, 3), (31, .iadd, 1), (32, .istore_n 1, 1), (33, .iinc 2 1, 3), (36, .goto (-32), 3), (39, .iload_n 1, 1), (40, .ireturn, 1)]
def mc_65 : List (Nat × Instr × Nat) := [(0, .iconst 0, 1), (1, .istore_n 1, 1), (2, .iconst 0, 1), (3, .istore_n 2, 1), (4, .iload_n 2, 1), (5, .aload_n 0, 1), (6, .getfield 11, 3), (9, .iconst 4, 1), (10, .invokestatic 24, 3), (13, .if_icmp .ge 23, 3), (16, .iload_n 1, 1), (17, .aload_n 0, 1), (18, .getfield 15, 3), (21, .bipush 20, 2), (23, .iload_n 2, 1), (24, .iadd, 1), (25, .invokestatic 24, 3), (28, .iadd, 1), (29, .istore_n 1, 1), (30, .iinc 2 1, 3), (33, .goto (-29), 3), (36, .iload_n 1, 1), (37, .ireturn, 1)]
def mc_66 : List (Nat × Instr × Nat) := [(0, .iconst 0, 1), (1, .istore_n 1, 1), (2, .iconst 0, 1), (3, .istore_n 2, 1), (4, .iload_n 2, 1), (5, .aload_n 0, 1), (6, .getfield 11, 3), (9, .iconst 4, 1), (10, .invokestatic 24, 3), (13, .if_icmp .ge 25, 3), (16, .iload_n 1, 1), (17, .aload_n 0, 1), (18, .getfield 15, 3), (21, .bipush 8, 2), (23, .iload_n 2, 1), (24, .iadd, 1), (25, .invokestatic 24, 3), (28, .iload_n 2, 1), (29, .ishl, 1), (30, .ior, 1), (31, .istore_n 1, 1), (32, .iinc 2 1, 3), (35, .goto (-31), 3), (38, .iload_n 1, 1), (39, .ireturn, 1)]
def mc_67 : List (Nat × Instr × Nat) := [(0, .iconst 0, 1), (1, .istore_n 2, 1), (2, .iconst 0, 1), (3, .istore_n 3, 1), (4, .iload_n 3, 1), (5, .aload_n 0, 1), (6, .getfield 11, 3), (9, .iconst 4, 1), (10, .invokestatic 24, 3), (13, .if_icmp .ge 29, 3), (16, .aload_n 0, 1), (17, .getfield 15, 3), (20, .iconst 2, 1), (21, .iload_n 3, 1), (22, .iadd, 1), (23, .invokestatic 24, 3), (26, .iload_n 1, 1), (27, .if_icmp .ne 9, 3), (30, .iload_n 2, 1), (31, .iconst 1, 1), (32, .iload_n 3, 1), (33, .ishl, 1), (34, .ior, 1), (35, .istore_n 2, 1), (36, .iinc 3 1, 3), (39, .goto (-35), 3), (42, .iload_n 2, 1), (43, .ireturn, 1)]
def mc_68 : List (Nat × Instr × Nat) := [(0, .aload_n 0, 1), (1, .iconst 1, 1), (2, .iload_n 1, 1), (3, .ishl, 1), (4, .invokevirtual 121, 3), (7, .ireturn, 1)]
def mc_69 : List (Nat × Instr × Nat) := [(0, .iconst 0, 1), (1, .istore_n 2, 1), (2, .iconst 0, 1), (3, .istore_n 3, 1), (4, .iload_n 3, 1), (5, .aload_n 0, 1), (6, .getfield 11, 3), (9, .iconst 0, 1), (10, .invokestatic 24, 3), (13, .if_icmp .ge 31, 3), (16, .aload_n 0, 1), (17, .getfield 15, 3), (20, .bipush 104, 2), (22, .iload_n 3, 1), (23, .iadd, 1), (24, .invokestatic 24, 3), (27, .iload_n 1, 1), (28, .iand, 1), (29, .ifCond .eq 9, 3), (32, .iload_n 2, 1), (33, .iconst 1, 1), (34, .iload_n 3, 1), (35, .ishl, 1), (36, .ior, 1), (37, .istore_n 2, 1), (38, .iinc 3 1, 3), (41, .goto (-37), 3), (44, .iload_n 2, 1), (45, .ireturn, 1)]
def mc_70 : List (Nat × Instr × Nat) := [(0, .aload_n 0, 1), (1, .invokespecial 3, 3), (4, .aload_n 0, 1), (5, .sipush 912, 3), (8, .newarray .int, 2), (10, .putfield 13, 3), (13, .return_, 1)]
def mc_71 : List (Nat × Instr × Nat) := [(0, .aload_n 0, 1), (1, .iconst 0, 1), (2, .putfield 17, 3), (5, .return_, 1)]
def mc_72 : List (Nat × Instr × Nat) := [(0, .aload_n 1, 1), (1, .iconst 0, 1), (2, .aload_n 0, 1), (3, .getfield 13, 3), (6, .aload_n 0, 1), (7, .getfield 21, 3), (10, .bipush 7, 2), (12, .iand, 1), (13, .bipush 114, 2), (15, .imul, 1), (16, .aload_n 1, 1), (17, .arraylength, 1), (18, .bipush 114, 2), (20, .invokestatic 24, 3), (23, .invokestatic 30, 3), (26, .aload_n 0, 1), (27, .aload_n 0, 1), (28, .getfield 21, 3), (31, .iconst 1, 1), (32, .iadd, 1), (33, .bipush 7, 2), (35, .iand, 1), (36, .putfield 21, 3), (39, .aload_n 0, 1), (40, .aload_n 0, 1), (41, .getfield 17, 3), (44, .iconst 1, 1), (45, .iadd, 1), (46, .bipush 8, 2), (48, .invokestatic 24, 3), (51, .putfield 17, 3), (54, .return_, 1)]
def mc_73 : List (Nat × Instr × Nat) := [(0, .aload_n 0, 1), (1, .getfield 17, 3), (4, .ifCond .ne 5, 3), (7, .iconst (-1), 1), (8, .ireturn, 1), (9, .aload_n 0, 1), (10, .aload_n 0, 1), (11, .getfield 21, 3), (14, .bipush 7, 2), (16, .iadd, 1), (17, .bipush 7, 2), (19, .iand, 1), (20, .putfield 21, 3), (23, .aload_n 0, 1), (24, .dup, 1), (25, .getfield 17, 3), (28, .iconst 1, 1), (29, .isub, 1), (30, .putfield 17, 3), (33, .aload_n 0, 1), (34, .getfield 13, 3), (37, .aload_n 0, 1), (38, .getfield 21, 3), (41, .bipush 7, 2), (43, .iand, 1), (44, .bipush 114, 2), (46, .imul, 1), (47, .aload_n 1, 1), (48, .iconst 0, 1), (49, .aload_n 1, 1), (50, .arraylength, 1), (51, .bipush 114, 2), (53, .invokestatic 24, 3), (56, .invokestatic 30, 3), (59, .aload_n 0, 1), (60, .getfield 17, 3), (63, .ireturn, 1)]
def mc_74 : List (Nat × Instr × Nat) := [(0, .aload_n 0, 1), (1, .invokespecial 3, 3), (4, .aload_n 0, 1), (5, .aload_n 1, 1), (6, .putfield 9, 3), (9, .aload_n 0, 1), (10, .bipush 10, 2), (12, .newarray .int, 2), (14, .putfield 15, 3), (17, .aload_n 0, 1), (18, .bipush 10, 2), (20, .newarray .int, 2), (22, .putfield 18, 3), (25, .return_, 1)]
def mc_75 : List (Nat × Instr × Nat) := [(0, .iload_n 1, 1), (1, .iload_n 2, 1), (2, .if_icmp .ne 10, 3), (5, .aload_n 0, 1), (6, .iconst 0, 1), (7, .putfield 21, 3), (10, .iconst 0, 1), (11, .ireturn, 1), (12, .iload_n 3, 1), (13, .iload_n 2, 1), (14, .ishr, 1), (15, .iconst 1, 1), (16, .iand, 1), (17, .iconst 1, 1), (18, .if_icmp .ne 5, 3), (21, .iconst (-1), 1), (22, .ireturn, 1), (23, .iconst 1, 1), (24, .iload_n 2, 1), (25, .ishl, 1), (26, .istore 4, 2), (28, .iload 4, 2), (30, .istore 5, 2), (32, .iconst 1, 1), (33, .istore 6, 2), (35, .iload 6, 2), (37, .bipush 10, 2), (39, .if_icmp .ge 72, 3), (42, .aload_n 0, 1), (43, .getfield 18, 3), (46, .iload 6, 2), (48, .iconst 1, 1), (49, .isub, 1), (50, .iload 4, 2), (52, .invokestatic 25, 3), (55, .aload_n 0, 1), (56, .iload 4, 2), (58, .invokevirtual 29, 3), (61, .istore 7, 2), (63, .iload 7, 2), (65, .iload_n 1, 1), (66, .ishr, 1), (67, .iconst 1, 1), (68, .iand, 1), (69, .iconst 1, 1), (70, .if_icmp .ne 15, 3), (73, .aload_n 0, 1), (74, .iload_n 1, 1), (75, .iload 6, 2), (77, .invokevirtual 33, 3), (80, .aload_n 0, 1), (81, .getfield 21, 3), (84, .ireturn, 1), (85, .iload 7, 2), (87, .iload_n 3, 1), (88, .iconst (-1), 1), (89, .ixor, 1), (90, .iand, 1), (91, .iload 5, 2), (93, .iconst (-1), 1), (94, .ixor, 1), (95, .iand, 1), (96, .istore 4, 2), (98, .iload 5, 2), (100, .iload 4, 2), (102, .ior, 1), (103, .istore 5, 2), (105, .iinc 6 1, 3), (108, .goto (-73), 3), (111, .iconst (-1), 1), (112, .ireturn, 1)]
def mc_76 : List (Nat × Instr × Nat) := [(0, .iconst 0, 1), (1, .istore_n 2, 1), (2, .iconst 0, 1), (3, .istore_n 3, 1), (4, .iload_n 3, 1), (5, .aload_n 0, 1), (6, .getfield 9, 3), (9, .iconst 0, 1), (10, .invokestatic 39, 3), (13, .if_icmp .ge 32, 3), (16, .iload_n 1, 1), (17, .iload_n 3, 1), (18, .ishr, 1), (19, .iconst 1, 1), (20, .iand, 1), (21, .iconst 1, 1), (22, .if_icmp .ne 17, 3), (25, .iload_n 2, 1), (26, .aload_n 0, 1), (27, .getfield 9, 3), (30, .bipush 6, 2), (32, .iload_n 3, 1), (33, .iadd, 1), (34, .invokestatic 39, 3), (37, .ior, 1), (38, .istore_n 2, 1), (39, .iinc 3 1, 3), (42, .goto (-38), 3), (45, .iload_n 2, 1), (46, .ireturn, 1)]
def mc_77 : List (Nat × Instr × Nat) := [(0, .aload_n 0, 1), (1, .iload_n 2, 1), (2, .putfield 21, 3), (5, .iload_n 1, 1), (6, .istore_n 3, 1), (7, .iconst 0, 1), (8, .istore 4, 2), (10, .iload 4, 2), (12, .iload_n 2, 1), (13, .if_icmp .ge 52, 3), (16, .aload_n 0, 1), (17, .getfield 9, 3), (20, .bipush 6, 2), (22, .iload_n 3, 1), (23, .iadd, 1), (24, .invokestatic 39, 3), (27, .aload_n 0, 1), (28, .getfield 18, 3), (31, .iload_n 2, 1), (32, .iconst 1, 1), (33, .isub, 1), (34, .iload 4, 2), (36, .isub, 1), (37, .invokestatic 39, 3), (40, .iand, 1), (41, .istore 5, 2), (43, .iload 5, 2), (45, .invokestatic 43, 3), (48, .istore_n 3, 1), (49, .aload_n 0, 1), (50, .getfield 15, 3), (53, .iload 4, 2), (55, .iload_n 3, 1), (56, .invokestatic 25, 3), (59, .iinc 4 1, 3), (62, .goto (-52), 3), (65, .return_, 1)]
def mc_78 : List (Nat × Instr × Nat) := [(0, .iconst 0, 1), (1, .istore_n 1, 1), (2, .iload_n 1, 1), (3, .bipush 10, 2), (5, .if_icmp .ge 20, 3), (8, .iload_n 0, 1), (9, .iload_n 1, 1), (10, .ishr, 1), (11, .iconst 1, 1), (12, .iand, 1), (13, .iconst 1, 1), (14, .if_icmp .ne 5, 3), (17, .iload_n 1, 1), (18, .ireturn, 1), (19, .iinc 1 1, 3), (22, .goto (-20), 3), (25, .iconst 0, 1), (26, .ireturn, 1)]
def mc_79 : List (Nat × Instr × Nat) := [(0, .aload_n 0, 1), (1, .invokespecial 3, 3), (4, .aload_n 0, 1), (5, .bipush 40, 2), (7, .newarray .int, 2), (9, .putfield 11, 3), (12, .aload_n 0, 1), (13, .bipush 40, 2), (15, .newarray .int, 2), (17, .putfield 15, 3), (20, .aload_n 0, 1), (21, .bipush 40, 2), (23, .newarray .int, 2), (25, .putfield 18, 3), (28, .aload_n 0, 1), (29, .bipush 40, 2), (31, .newarray .int, 2), (33, .putfield 21, 3), (36, .return_, 1)]
def mc_80 : List (Nat × Instr × Nat) := [(0, .aload_n 0, 1), (1, .iconst 0, 1), (2, .putfield 24, 3), (5, .return_, 1)]
def mc_81 : List (Nat × Instr × Nat) := [(0, .aload_n 1, 1), (1, .getfield 11, 3), (4, .aload_n 0, 1), (5, .getfield 11, 3), (8, .invokestatic 28, 3), (11, .aload_n 1, 1), (12, .getfield 15, 3), (15, .aload_n 0, 1), (16, .getfield 15, 3), (19, .invokestatic 28, 3), (22, .aload_n 1, 1), (23, .getfield 18, 3), (26, .aload_n 0, 1), (27, .getfield 18, 3), (30, .invokestatic 28, 3), (33, .aload_n 0, 1), (34, .aload_n 1, 1), (35, .getfield 24, 3), (38, .putfield 24, 3), (41, .return_, 1)]
def mc_82 : List (Nat × Instr × Nat) := [(0, .aload_n 0, 1), (1, .getfield 11, 3), (4, .aload_n 0, 1), (5, .getfield 24, 3), (8, .iload_n 1, 1), (9, .invokestatic 32, 3), (12, .aload_n 0, 1), (13, .getfield 15, 3), (16, .aload_n 0, 1), (17, .getfield 24, 3), (20, .iload_n 2, 1), (21, .invokestatic 32, 3), (24, .aload_n 0, 1), (25, .getfield 18, 3), (28, .aload_n 0, 1), (29, .getfield 24, 3), (32, .iload_n 3, 1), (33, .invokestatic 32, 3), (36, .aload_n 0, 1), (37, .dup, 1), (38, .getfield 24, 3), (41, .iconst 1, 1), (42, .iadd, 1), (43, .putfield 24, 3), (46, .return_, 1)]
def mc_83 : List (Nat × Instr × Nat) := [(0, .iconst 1, 1), (1, .aload_n 1, 1), (2, .getfield 36, 3), (5, .iconst 4, 1), (6, .invokestatic 43, 3), (9, .ishl, 1), (10, .iconst 1, 1), (11, .isub, 1), (12, .istore_n 2, 1), (13, .iconst 0, 1), (14, .istore_n 3, 1), (15, .iconst 0, 1), (16, .istore 4, 2), (18, .iload 4, 2), (20, .aload_n 0, 1), (21, .getfield 24, 3), (24, .if_icmp .ge 156, 3), (27, .aload_n 0, 1), (28, .getfield 11, 3), (31, .iload 4, 2), (33, .invokestatic 43, 3), (36, .istore 5, 2), (38, .iload 5, 2), (40, .bipush 19, 2), (42, .if_icmp .ne 30, 3), (45, .aload_n 0, 1), (46, .getfield 21, 3), (49, .iload_n 3, 1), (50, .iconst 1, 1), (51, .isub, 1), (52, .iload_n 2, 1), (53, .aload_n 0, 1), (54, .getfield 21, 3), (57, .iload_n 3, 1), (58, .iconst 1, 1), (59, .isub, 1), (60, .invokestatic 43, 3), (63, .iconst (-1), 1), (64, .ixor, 1), (65, .iand, 1), (66, .invokestatic 32, 3), (69, .goto 105, 3), (72, .iload 5, 2), (74, .bipush 18, 2), (76, .if_icmp .ne 38, 3), (79, .iinc 3 (-1), 3), (82, .aload_n 0, 1), (83, .getfield 21, 3), (86, .iload_n 3, 1), (87, .iconst 1, 1), (88, .isub, 1), (89, .aload_n 0, 1), (90, .getfield 21, 3), (93, .iload_n 3, 1), (94, .iconst 1, 1), (95, .isub, 1), (96, .invokestatic 43, 3), (99, .aload_n 0, 1), (100, .getfield 21, 3), (103, .iload_n 3, 1), (104, .invokestatic 43, 3), (107, .iand, 1), (108, .invokestatic 32, 3), (111, .goto 63, 3), (114, .iload 5, 2), (116, .bipush 17, 2), (118, .if_icmp .ne 38, 3), (121, .iinc 3 (-1), 3), (124, .aload_n 0, 1), (125, .getfield 21, 3), (128, .iload_n 3, 1), (129, .iconst 1, 1), (130, .isub, 1), (131, .aload_n 0, 1), (132, .getfield 21, 3), (135, .iload_n 3, 1), (136, .iconst 1, 1), (137, .isub, 1), (138, .invokestatic 43, 3), (141, .aload_n 0, 1), (142, .getfield 21, 3), (145, .iload_n 3, 1), (146, .invokestatic 43, 3), (149, .ior, 1), (150, .invokestatic 32, 3), (153, .goto 21, 3), (156, .aload_n 0, 1), (157, .getfield 21, 3), (160, .iload_n 3, 1), (161, .aload_n 0, 1), (162, .aload_n 1, 1), (163, .iload 4, 2), (165, .invokevirtual 47, 3), (168, .invokestatic 32, 3), (171, .iinc 3 1, 3), (174, .iinc 4 1, 3), (177, .goto (-159), 3), (180, .aload_n 0, 1), (181, .getfield 21, 3), (184, .iconst 0, 1), (185, .invokestatic 43, 3), (188, .ireturn, 1)]
def mc_84 : List (Nat × Instr × Nat) := [(0, .iconst 0, 1), (1, .istore_n 3, 1), (2, .iconst 0, 1), (3, .istore 4, 2), (5, .iload 4, 2), (7, .aload_n 1, 1), (8, .getfield 36, 3), (11, .iconst 4, 1), (12, .invokestatic 43, 3), (15, .if_icmp .ge 27, 3), (18, .aload_n 0, 1), (19, .aload_n 1, 1), (20, .iload_n 2, 1), (21, .iload 4, 2), (23, .invokevirtual 51, 3), (26, .ifCond .eq 10, 3), (29, .iload_n 3, 1), (30, .iconst 1, 1), (31, .iload 4, 2), (33, .ishl, 1), (34, .ior, 1), (35, .istore_n 3, 1), (36, .iinc 4 1, 3), (39, .goto (-34), 3), (42, .iload_n 3, 1), (43, .ireturn, 1)]
def mc_85 : List (Nat × Instr × Nat) := [(0, .aload_n 0, 1), (1, .getfield 18, 3), (4, .iload_n 2, 1), (5, .invokestatic 43, 3), (8, .istore 4, 2), (10, .aload_n 0, 1), (11, .getfield 11, 3), (14, .iload_n 2, 1), (15, .invokestatic 43, 3), (18, .tableswitch 200 20 27 #[46, 81, 95, 115, 134, 155, 172, 183], 46), (64, .aload_n 1, 1), (65, .getfield 55, 3), (68, .bipush 8, 2), (70, .iload_n 3, 1), (71, .iadd, 1), (72, .invokestatic 43, 3), (75, .iconst 1, 1), (76, .if_icmp .eq 17, 3), (79, .aload_n 1, 1), (80, .getfield 36, 3), (83, .bipush 50, 2), (85, .iload_n 3, 1), (86, .iadd, 1), (87, .invokestatic 43, 3), (90, .ifCond .ne 7, 3), (93, .iconst 1, 1), (94, .goto 4, 3), (97, .iconst 0, 1), (98, .ireturn, 1), (99, .aload_n 1, 1), (100, .iload_n 3, 1), (101, .invokevirtual 58, 3), (104, .ifCond .ne 7, 3), (107, .iconst 1, 1), (108, .goto 4, 3), (111, .iconst 0, 1), (112, .ireturn, 1), (113, .aload_n 1, 1), (114, .iload_n 3, 1), (115, .invokevirtual 58, 3), (118, .iload 4, 2), (120, .ishr, 1), (121, .iconst 1, 1), (122, .iand, 1), (123, .iconst 1, 1), (124, .if_icmp .ne 7, 3), (127, .iconst 1, 1), (128, .goto 4, 3), (131, .iconst 0, 1), (132, .ireturn, 1), (133, .aload_n 1, 1), (134, .iload_n 3, 1), (135, .invokevirtual 62, 3), (138, .iload 4, 2), (140, .ishr, 1), (141, .iconst 1, 1), (142, .iand, 1), (143, .ifCond .ne 7, 3), (146, .iconst 1, 1), (147, .goto 4, 3), (150, .iconst 0, 1), (151, .ireturn, 1), (152, .aload_n 1, 1), (153, .getfield 55, 3), (156, .iconst 2, 1), (157, .iload_n 3, 1), (158, .iadd, 1), (159, .invokestatic 43, 3), (162, .iload 4, 2), (164, .if_icmp .ne 7, 3), (167, .iconst 1, 1), (168, .goto 4, 3), (171, .iconst 0, 1), (172, .ireturn, 1), (173, .aload_n 0, 1), (174, .aload_n 1, 1), (175, .getfield 36, 3), (178, .bipush 50, 2), (180, .iload_n 3, 1), (181, .iadd, 1), (182, .invokestatic 43, 3), (185, .iload_n 2, 1), (186, .invokevirtual 65, 3), (189, .ireturn, 1), (190, .aload_n 0, 1), (191, .aload_n 1, 1), (192, .iload_n 3, 1), (193, .invokevirtual 69, 3), (196, .iload_n 2, 1), (197, .invokevirtual 65, 3), (200, .ireturn, 1), (201, .aload_n 0, 1), (202, .aload_n 1, 1), (203, .getfield 55, 3), (206, .bipush 20, 2), (208, .iload_n 3, 1), (209, .iadd, 1), (210, .invokestatic 43, 3), (213, .iload_n 2, 1), (214, .invokevirtual 65, 3), (217, .ireturn, 1), (218, .aload_n 0, 1), (219, .iload_n 3, 1), (220, .iload_n 2, 1), (221, .invokevirtual 65, 3), (224, .ireturn, 1)]
def mc_86 : List (Nat × Instr × Nat) := [(0, .aload_n 0, 1), (1, .getfield 18, 3), (4, .iload_n 2, 1), (5, .invokestatic 43, 3), (8, .istore_n 3, 1), (9, .aload_n 0, 1), (10, .getfield 15, 3), (13, .iload_n 2, 1), (14, .invokestatic 43, 3), (17, .lookupswitch 49 #[(60, 27), (61, 38)], 27), (44, .iload_n 1, 1), (45, .iload_n 3, 1), (46, .if_icmp .ge 7, 3), (49, .iconst 1, 1), (50, .goto 4, 3), (53, .iconst 0, 1), (54, .ireturn, 1), (55, .iload_n 1, 1), (56, .iload_n 3, 1), (57, .if_icmp .ne 7, 3), (60, .iconst 1, 1), (61, .goto 4, 3), (64, .iconst 0, 1), (65, .ireturn, 1), (66, .iload_n 1, 1), (67, .iload_n 3, 1), (68, .if_icmp .le 7, 3), (71, .iconst 1, 1), (72, .goto 4, 3), (75, .iconst 0, 1), (76, .ireturn, 1)]
def mc_87 : List (Nat × Instr × Nat) := [(0, .aload_n 0, 1), (1, .invokespecial 3, 3), (4, .aload_n 0, 1), (5, .aload_n 1, 1), (6, .putfield 9, 3), (9, .aload_n 0, 1), (10, .aload_n 2, 1), (11, .putfield 15, 3), (14, .aload_n 0, 1), (15, .aload_n 3, 1), (16, .putfield 19, 3), (19, .return_, 1)]
def mc_88 : List (Nat × Instr × Nat) := [(0, .aload_n 0, 1), (1, .iconst 0, 1), (2, .putfield 23, 3), (5, .aload_n 0, 1), (6, .getfield 19, 3), (9, .invokevirtual 27, 3), (12, .aload_n 0, 1), (13, .getfield 9, 3), (16, .sipush 200, 3), (19, .invokevirtual 32, 3), (22, .aload_n 0, 1), (23, .iconst 1, 1), (24, .invokevirtual 38, 3), (27, .ifCond .ne 5, 3), (30, .iconst (-1), 1), (31, .ireturn, 1), (32, .aload_n 0, 1), (33, .getfield 9, 3), (36, .getfield 42, 3), (39, .ifCond .eq 14, 3), (42, .aload_n 0, 1), (43, .getfield 9, 3), (46, .iconst 1, 1), (47, .invokevirtual 45, 3), (50, .pop, 1), (51, .iconst (-1), 1), (52, .ireturn, 1), (53, .aload_n 0, 1), (54, .getfield 23, 3), (57, .ireturn, 1)]
def mc_89 : List (Nat × Instr × Nat) := [(0, .iconst 0, 1), (1, .istore_n 2, 1), (2, .iload_n 2, 1), (3, .bipush 20, 2), (5, .if_icmp .gt 109, 3), (8, .aload_n 0, 1), (9, .iload_n 1, 1), (10, .invokevirtual 48, 3), (13, .ifCond .ne 5, 3), (16, .iconst 0, 1), (17, .ireturn, 1), (18, .iconst 0, 1), (19, .istore_n 3, 1), (20, .iload_n 3, 1), (21, .bipush 20, 2), (23, .if_icmp .ge 49, 3), (26, .aload_n 0, 1), (27, .getfield 9, 3), (30, .getfield 51, 3), (33, .bipush 18, 2), (35, .if_icmp .ne 37, 3), (38, .aload_n 0, 1), (39, .getfield 9, 3), (42, .invokevirtual 54, 3), (45, .aload_n 0, 1), (46, .iload_n 1, 1), (47, .invokevirtual 48, 3), (50, .ifCond .ne 5, 3), (53, .iconst 0, 1), (54, .ireturn, 1), (55, .aload_n 0, 1), (56, .getfield 19, 3), (59, .bipush 18, 2), (61, .iconst 0, 1), (62, .iconst 0, 1), (63, .invokevirtual 57, 3), (66, .iinc 3 1, 3), (69, .goto (-49), 3), (72, .iload_n 2, 1), (73, .ifCond .le 14, 3), (76, .aload_n 0, 1), (77, .getfield 19, 3), (80, .bipush 17, 2), (82, .iconst 0, 1), (83, .iconst 0, 1), (84, .invokevirtual 57, 3), (87, .aload_n 0, 1), (88, .getfield 9, 3), (91, .getfield 51, 3), (94, .bipush 17, 2), (96, .if_icmp .eq 5, 3), (99, .iconst 1, 1), (100, .ireturn, 1), (101, .aload_n 0, 1), (102, .getfield 9, 3), (105, .invokevirtual 54, 3), (108, .iinc 2 1, 3), (111, .goto (-109), 3), (114, .iconst 0, 1), (115, .ireturn, 1)]
def mc_90 : List (Nat × Instr × Nat) := [(0, .aload_n 0, 1), (1, .getfield 9, 3), (4, .bipush 40, 2), (6, .invokevirtual 61, 3), (9, .istore_n 2, 1), (10, .aload_n 0, 1), (11, .getfield 9, 3), (14, .getfield 51, 3), (17, .istore_n 3, 1), (18, .iload_n 2, 1), (19, .ifCond .ne 18, 3), (22, .iload_n 3, 1), (23, .bipush 19, 2), (25, .if_icmp .ge 12, 3), (28, .aload_n 0, 1), (29, .getfield 9, 3), (32, .iconst 1, 1), (33, .invokevirtual 45, 3), (36, .ireturn, 1), (37, .aload_n 0, 1), (38, .getfield 23, 3), (41, .bipush 20, 2), (43, .if_icmp .ge 9, 3), (46, .iload_n 1, 1), (47, .bipush 8, 2), (49, .if_icmp .le 12, 3), (52, .aload_n 0, 1), (53, .getfield 9, 3), (56, .iconst 4, 1), (57, .invokevirtual 45, 3), (60, .ireturn, 1), (61, .aload_n 0, 1), (62, .dup, 1), (63, .getfield 23, 3), (66, .iconst 1, 1), (67, .iadd, 1), (68, .putfield 23, 3), (71, .aload_n 0, 1), (72, .getfield 9, 3), (75, .invokevirtual 54, 3), (78, .iload_n 2, 1), (79, .ifCond .eq 31, 3), (82, .aload_n 0, 1), (83, .iload_n 1, 1), (84, .iconst 1, 1), (85, .iadd, 1), (86, .invokevirtual 38, 3), (89, .ifCond .eq 19, 3), (92, .aload_n 0, 1), (93, .getfield 9, 3), (96, .bipush 41, 2), (98, .invokevirtual 65, 3), (101, .ifCond .eq 7, 3), (104, .iconst 1, 1), (105, .goto 4, 3), (108, .iconst 0, 1), (109, .ireturn, 1), (110, .iload_n 3, 1), (111, .tableswitch 76 19 24 #[37, 43, 43, 55, 62, 69], 37), (148, .aload_n 0, 1), (149, .iload_n 1, 1), (150, .invokevirtual 68, 3), (153, .ireturn, 1), (154, .aload_n 0, 1), (155, .getfield 19, 3), (158, .iload_n 3, 1), (159, .iconst 0, 1), (160, .iconst 0, 1), (161, .invokevirtual 57, 3), (164, .iconst 1, 1), (165, .ireturn, 1), (166, .aload_n 0, 1), (167, .iload_n 3, 1), (168, .iconst 3, 1), (169, .invokevirtual 73, 3), (172, .ireturn, 1), (173, .aload_n 0, 1), (174, .iload_n 3, 1), (175, .iconst 2, 1), (176, .invokevirtual 73, 3), (179, .ireturn, 1), (180, .aload_n 0, 1), (181, .iload_n 3, 1), (182, .iconst 0, 1), (183, .invokevirtual 73, 3), (186, .ireturn, 1), (187, .aload_n 0, 1), (188, .iload_n 3, 1), (189, .invokevirtual 77, 3), (192, .ireturn, 1)]
def mc_91 : List (Nat × Instr × Nat) := [(0, .aload_n 0, 1), (1, .iload_n 1, 1), (2, .iconst 1, 1), (3, .iadd, 1), (4, .invokevirtual 48, 3), (7, .ifCond .ne 5, 3), (10, .iconst 0, 1), (11, .ireturn, 1), (12, .aload_n 0, 1), (13, .getfield 19, 3), (16, .bipush 19, 2), (18, .iconst 0, 1), (19, .iconst 0, 1), (20, .invokevirtual 57, 3), (23, .iconst 1, 1), (24, .ireturn, 1)]
def mc_92 : List (Nat × Instr × Nat) := [(0, .aload_n 0, 1), (1, .getfield 9, 3), (4, .aload_n 0, 1), (5, .getfield 15, 3), (8, .iload_n 2, 1), (9, .invokevirtual 80, 3), (12, .istore_n 3, 1), (13, .iload_n 3, 1), (14, .iconst (-1), 1), (15, .if_icmp .ne 5, 3), (18, .iconst 0, 1), (19, .ireturn, 1), (20, .aload_n 0, 1), (21, .getfield 19, 3), (24, .iload_n 1, 1), (25, .iconst 0, 1), (26, .iload_n 3, 1), (27, .invokevirtual 57, 3), (30, .aload_n 0, 1), (31, .getfield 9, 3), (34, .invokevirtual 54, 3), (37, .iconst 1, 1), (38, .ireturn, 1)]
def mc_93 : List (Nat × Instr × Nat) := [(0, .aload_n 0, 1), (1, .getfield 9, 3), (4, .getfield 84, 3), (7, .istore_n 2, 1), (8, .aload_n 0, 1), (9, .getfield 9, 3), (12, .bipush 60, 2), (14, .invokevirtual 61, 3), (17, .ifCond .ne 36, 3), (20, .aload_n 0, 1), (21, .getfield 9, 3), (24, .bipush 61, 2), (26, .invokevirtual 61, 3), (29, .ifCond .ne 24, 3), (32, .aload_n 0, 1), (33, .getfield 9, 3), (36, .bipush 62, 2), (38, .invokevirtual 61, 3), (41, .ifCond .ne 12, 3), (44, .aload_n 0, 1), (45, .getfield 9, 3), (48, .iconst 1, 1), (49, .invokevirtual 45, 3), (52, .ireturn, 1), (53, .aload_n 0, 1), (54, .getfield 9, 3), (57, .invokevirtual 54, 3), (60, .aload_n 0, 1), (61, .getfield 9, 3), (64, .getfield 42, 3), (67, .iconst 3, 1), (68, .if_icmp .eq 12, 3), (71, .aload_n 0, 1), (72, .getfield 9, 3), (75, .iconst 1, 1), (76, .invokevirtual 45, 3), (79, .ireturn, 1), (80, .aload_n 0, 1), (81, .getfield 19, 3), (84, .iload_n 1, 1), (85, .iload_n 2, 1), (86, .aload_n 0, 1), (87, .getfield 9, 3), (90, .getfield 84, 3), (93, .invokevirtual 57, 3), (96, .aload_n 0, 1), (97, .getfield 9, 3), (100, .invokevirtual 54, 3), (103, .iconst 1, 1), (104, .ireturn, 1)]
def mc_94 : List (Nat × Instr × Nat) := [(0, .aload_n 0, 1), (1, .invokespecial 3, 3), (4, .aload_n 0, 1), (5, .sipush 940, 3), (8, .newarray .byte, 2), (10, .putfield 9, 3), (13, .aload_n 0, 1), (14, .bipush 29, 2), (16, .newarray .long, 2), (18, .putfield 15, 3), (21, .iconst 0, 1), (22, .istore_n 1, 1), (23, .iconst 0, 1), (24, .istore_n 2, 1), (25, .iload_n 2, 1), (26, .ldc 19, 2), (28, .invokevirtual 21, 3), (31, .if_icmp .ge 61, 3), (34, .ldc 19, 2), (36, .iload_n 2, 1), (37, .invokevirtual 27, 3), (40, .istore_n 3, 1), (41, .iload_n 3, 1), (42, .bipush 32, 2), (44, .if_icmp .ne 9, 3), (47, .iinc 1 1, 3), (50, .goto 36, 3), (53, .iload_n 1, 1), (54, .aload_n 0, 1), (55, .getfield 15, 3), (58, .arraylength, 1), (59, .if_icmp .ge 27, 3), (62, .aload_n 0, 1), (63, .getfield 15, 3), (66, .iload_n 1, 1), (67, .aload_n 0, 1), (68, .getfield 15, 3), (71, .iload_n 1, 1), (72, .laload, 1), (73, .ldc2_w 31, 3), (76, .lmul, 1), (77, .iload_n 3, 1), (78, .bipush 97, 2), (80, .isub, 1), (81, .iconst 1, 1), (82, .iadd, 1), (83, .i2l, 1), (84, .ladd, 1), (85, .lastore, 1), (86, .iinc 2 1, 3), (89, .goto (-64), 3), (92, .return_, 1)]
def mc_95 : List (Nat × Instr × Nat) := [(0, .bipush 24, 2), (2, .istore_n 2, 1), (3, .iload_n 2, 1), (4, .ifCond .lt 51, 3), (7, .aload_n 0, 1), (8, .getfield 33, 3), (11, .ifCond .lt 38, 3), (14, .aload_n 0, 1), (15, .getfield 33, 3), (18, .aload_n 0, 1), (19, .getfield 9, 3), (22, .arraylength, 1), (23, .if_icmp .ge 26, 3), (26, .aload_n 0, 1), (27, .getfield 9, 3), (30, .aload_n 0, 1), (31, .getfield 33, 3), (34, .iload_n 1, 1), (35, .iload_n 2, 1), (36, .ishr, 1), (37, .i2b, 1), (38, .bastore, 1), (39, .aload_n 0, 1), (40, .dup, 1), (41, .getfield 33, 3), (44, .iconst 1, 1), (45, .iadd, 1), (46, .putfield 33, 3), (49, .iinc 2 (-8), 3), (52, .goto (-49), 3), (55, .return_, 1)]
def mc_96 : List (Nat × Instr × Nat) := [(0, .iload_n 1, 1), (1, .ifCond .lt 25, 3), (4, .iload_n 1, 1), (5, .aload_n 0, 1), (6, .getfield 9, 3), (9, .arraylength, 1), (10, .if_icmp .ge 16, 3), (13, .aload_n 0, 1), (14, .getfield 9, 3), (17, .iload_n 1, 1), (18, .baload, 1), (19, .sipush 255, 3), (22, .iand, 1), (23, .goto 4, 3), (26, .iconst 0, 1), (27, .ireturn, 1)]
def mc_97 : List (Nat × Instr × Nat) := [(0, .aload_n 0, 1), (1, .iload_n 1, 1), (2, .putfield 37, 3), (5, .aload_n 0, 1), (6, .iconst 0, 1), (7, .putfield 40, 3), (10, .aload_n 0, 1), (11, .iconst 0, 1), (12, .putfield 43, 3), (15, .aload_n 0, 1), (16, .iconst 0, 1), (17, .putfield 46, 3), (20, .aload_n 0, 1), (21, .invokevirtual 49, 3), (24, .return_, 1)]
def mc_98 : List (Nat × Instr × Nat) := [(0, .aload_n 0, 1), (1, .getfield 40, 3), (4, .istore_n 1, 1), (5, .iload_n 1, 1), (6, .aload_n 0, 1), (7, .getfield 33, 3), (10, .if_icmp .ge 29, 3), (13, .aload_n 0, 1), (14, .iload_n 1, 1), (15, .invokevirtual 52, 3), (18, .bipush 32, 2), (20, .if_icmp .eq 13, 3), (23, .aload_n 0, 1), (24, .iload_n 1, 1), (25, .invokevirtual 52, 3), (28, .bipush 10, 2), (30, .if_icmp .ne 9, 3), (33, .iinc 1 1, 3), (36, .goto (-31), 3), (39, .aload_n 0, 1), (40, .iconst 0, 1), (41, .putfield 56, 3), (44, .aload_n 0, 1), (45, .lconst 0, 1), (46, .putfield 59, 3), (49, .aload_n 0, 1), (50, .iconst (-1), 1), (51, .putfield 63, 3), (54, .iload_n 1, 1), (55, .aload_n 0, 1), (56, .getfield 33, 3), (59, .if_icmp .ge 11, 3), (62, .iload_n 1, 1), (63, .aload_n 0, 1), (64, .getfield 37, 3), (67, .if_icmp .lt 39, 3), (70, .aload_n 0, 1), (71, .aload_n 0, 1), (72, .getfield 33, 3), (75, .aload_n 0, 1), (76, .getfield 37, 3), (79, .if_icmp .le 7, 3), (82, .iconst 1, 1), (83, .goto 4, 3), (86, .iconst 0, 1), (87, .putfield 66, 3), (90, .aload_n 0, 1), (91, .aload_n 0, 1), (92, .getfield 33, 3), (95, .aload_n 0, 1), (96, .getfield 37, 3), (99, .invokestatic 69, 3), (102, .putfield 75, 3), (105, .return_, 1), (106, .aload_n 0, 1), (107, .iload_n 1, 1), (108, .putfield 75, 3), (111, .aload_n 0, 1), (112, .iload_n 1, 1), (113, .invokevirtual 52, 3), (116, .istore_n 2, 1), (117, .iload_n 2, 1), (118, .invokestatic 78, 3), (121, .ifCond .ne 10, 3), (124, .iload_n 2, 1), (125, .invokestatic 82, 3), (128, .ifCond .eq 9, 3), (131, .aload_n 0, 1), (132, .iload_n 1, 1), (133, .invokevirtual 85, 3), (136, .return_, 1), (137, .aload_n 0, 1), (138, .iload_n 1, 1), (139, .iconst 1, 1), (140, .iadd, 1), (141, .putfield 40, 3), (144, .aload_n 0, 1), (145, .iload_n 2, 1), (146, .putfield 56, 3), (149, .aload_n 0, 1), (150, .iload_n 2, 1), (151, .bipush 59, 2), (153, .if_icmp .eq 33, 3), (156, .iload_n 2, 1), (157, .bipush 60, 2), (159, .if_icmp .eq 27, 3), (162, .iload_n 2, 1), (163, .bipush 61, 2), (165, .if_icmp .eq 21, 3), (168, .iload_n 2, 1), (169, .bipush 62, 2), (171, .if_icmp .eq 15, 3), (174, .iload_n 2, 1), (175, .bipush 40, 2), (177, .if_icmp .eq 9, 3), (180, .iload_n 2, 1), (181, .bipush 41, 2), (183, .if_icmp .ne 7, 3), (186, .iconst 4, 1), (187, .goto 4, 3), (190, .iconst 1, 1), (191, .putfield 66, 3), (194, .return_, 1)]
def mc_99 : List (Nat × Instr × Nat) := [(0, .iconst 0, 1), (1, .istore_n 2, 1), (2, .iconst 0, 1), (3, .istore_n 3, 1), (4, .iload_n 1, 1), (5, .istore 4, 2), (7, .iload 4, 2), (9, .aload_n 0, 1), (10, .getfield 33, 3), (13, .if_icmp .ge 96, 3), (16, .aload_n 0, 1), (17, .iload 4, 2), (19, .invokevirtual 52, 3), (22, .invokestatic 78, 3), (25, .ifCond .ne 15, 3), (28, .aload_n 0, 1), (29, .iload 4, 2), (31, .invokevirtual 52, 3), (34, .invokestatic 82, 3), (37, .ifCond .eq 72, 3), (40, .aload_n 0, 1), (41, .iload 4, 2), (43, .invokevirtual 52, 3), (46, .istore 5, 2), (48, .iload 5, 2), (50, .invokestatic 78, 3), (53, .ifCond .eq 30, 3), (56, .iinc 2 1, 3), (59, .aload_n 0, 1), (60, .aload_n 0, 1), (61, .getfield 59, 3), (64, .ldc2_w 31, 3), (67, .lmul, 1), (68, .iload 5, 2), (70, .bipush 97, 2), (72, .isub, 1), (73, .iconst 1, 1), (74, .iadd, 1), (75, .i2l, 1), (76, .ladd, 1), (77, .putfield 59, 3), (80, .goto 23, 3), (83, .iinc 3 1, 3), (86, .aload_n 0, 1), (87, .aload_n 0, 1), (88, .getfield 56, 3), (91, .bipush 10, 2), (93, .imul, 1), (94, .iload 5, 2), (96, .bipush 48, 2), (98, .isub, 1), (99, .iadd, 1), (100, .putfield 56, 3), (103, .iinc 4 1, 3), (106, .goto (-99), 3), (109, .aload_n 0, 1), (110, .iload 4, 2), (112, .putfield 40, 3), (115, .aload_n 0, 1), (116, .iconst 1, 1), (117, .putfield 66, 3), (120, .iload_n 3, 1), (121, .ifCond .ne 29, 3), (124, .iload_n 2, 1), (125, .bipush 7, 2), (127, .if_icmp .gt 23, 3), (130, .aload_n 0, 1), (131, .iconst 2, 1), (132, .putfield 66, 3), (135, .aload_n 0, 1), (136, .aload_n 0, 1), (137, .aload_n 0, 1), (138, .getfield 59, 3), (141, .invokevirtual 89, 3), (144, .putfield 63, 3), (147, .goto 17, 3), (150, .iload_n 2, 1), (151, .ifCond .ne 13, 3), (154, .iload_n 3, 1), (155, .iconst 2, 1), (156, .if_icmp .gt 8, 3), (159, .aload_n 0, 1), (160, .iconst 3, 1), (161, .putfield 66, 3), (164, .return_, 1)]
def mc_100 : List (Nat × Instr × Nat) := [(0, .iconst 0, 1), (1, .istore_n 3, 1), (2, .iload_n 3, 1), (3, .aload_n 0, 1), (4, .getfield 15, 3), (7, .arraylength, 1), (8, .if_icmp .ge 22, 3), (11, .aload_n 0, 1), (12, .getfield 15, 3), (15, .iload_n 3, 1), (16, .laload, 1), (17, .lload_n 1, 1), (18, .lcmp, 1), (19, .ifCond .ne 5, 3), (22, .iload_n 3, 1), (23, .ireturn, 1), (24, .iinc 3 1, 3), (27, .goto (-25), 3), (30, .iconst (-1), 1), (31, .ireturn, 1)]
def mc_101 : List (Nat × Instr × Nat) := [(0, .iload_n 0, 1), (1, .bipush 97, 2), (3, .if_icmp .lt 13, 3), (6, .iload_n 0, 1), (7, .bipush 122, 2), (9, .if_icmp .gt 7, 3), (12, .iconst 1, 1), (13, .goto 4, 3), (16, .iconst 0, 1), (17, .ireturn, 1)]
def mc_102 : List (Nat × Instr × Nat) := [(0, .iload_n 0, 1), (1, .bipush 48, 2), (3, .if_icmp .lt 13, 3), (6, .iload_n 0, 1), (7, .bipush 57, 2), (9, .if_icmp .gt 7, 3), (12, .iconst 1, 1), (13, .goto 4, 3), (16, .iconst 0, 1), (17, .ireturn, 1)]
def mc_103 : List (Nat × Instr × Nat) := [(0, .aload_n 0, 1), (1, .iload_n 1, 1), (2, .putfield 43, 3), (5, .aload_n 0, 1), (6, .aload_n 0, 1), (7, .getfield 75, 3), (10, .putfield 46, 3), (13, .iconst 0, 1), (14, .ireturn, 1)]
def mc_104 : List (Nat × Instr × Nat) := [(0, .aload_n 0, 1), (1, .getfield 66, 3), (4, .iconst 4, 1), (5, .if_icmp .ne 15, 3), (8, .aload_n 0, 1), (9, .getfield 56, 3), (12, .iload_n 1, 1), (13, .if_icmp .ne 7, 3), (16, .iconst 1, 1), (17, .goto 4, 3), (20, .iconst 0, 1), (21, .ireturn, 1)]
def mc_105 : List (Nat × Instr × Nat) := [(0, .aload_n 0, 1), (1, .iload_n 1, 1), (2, .invokevirtual 93, 3), (5, .ifCond .ne 9, 3), (8, .aload_n 0, 1), (9, .iconst 1, 1), (10, .invokevirtual 97, 3), (13, .ireturn, 1), (14, .aload_n 0, 1), (15, .invokevirtual 49, 3), (18, .iconst 1, 1), (19, .ireturn, 1)]
def mc_106 : List (Nat × Instr × Nat) := [(0, .aload_n 0, 1), (1, .getfield 66, 3), (4, .iconst 3, 1), (5, .if_icmp .eq 11, 3), (8, .aload_n 0, 1), (9, .iconst 1, 1), (10, .invokevirtual 97, 3), (13, .pop, 1), (14, .iconst (-1), 1), (15, .ireturn, 1), (16, .aload_n 0, 1), (17, .getfield 56, 3), (20, .iload_n 1, 1), (21, .if_icmp .lt 11, 3), (24, .aload_n 0, 1), (25, .getfield 56, 3), (28, .iload_n 2, 1), (29, .if_icmp .le 11, 3), (32, .aload_n 0, 1), (33, .iconst 2, 1), (34, .invokevirtual 97, 3), (37, .pop, 1), (38, .iconst (-1), 1), (39, .ireturn, 1), (40, .aload_n 0, 1), (41, .getfield 56, 3), (44, .istore_n 3, 1), (45, .aload_n 0, 1), (46, .invokevirtual 49, 3), (49, .iload_n 3, 1), (50, .ireturn, 1)]
def mc_107 : List (Nat × Instr × Nat) := [(0, .aload_n 0, 1), (1, .getfield 66, 3), (4, .iconst 2, 1), (5, .if_icmp .ne 15, 3), (8, .aload_n 0, 1), (9, .getfield 63, 3), (12, .iconst (-1), 1), (13, .if_icmp .ne 7, 3), (16, .iconst 1, 1), (17, .goto 4, 3), (20, .iconst 0, 1), (21, .ireturn, 1)]
def mc_108 : List (Nat × Instr × Nat) := [(0, .aload_n 0, 1), (1, .invokevirtual 100, 3), (4, .ifCond .ne 11, 3), (7, .aload_n 0, 1), (8, .iconst 1, 1), (9, .invokevirtual 97, 3), (12, .pop, 1), (13, .iconst (-1), 1), (14, .ireturn, 1), (15, .aload_n 1, 1), (16, .aload_n 0, 1), (17, .getfield 59, 3), (20, .iload_n 2, 1), (21, .invokevirtual 104, 3), (24, .istore_n 3, 1), (25, .iload_n 3, 1), (26, .iconst (-1), 1), (27, .if_icmp .ne 9, 3), (30, .aload_n 0, 1), (31, .iconst 3, 1), (32, .invokevirtual 97, 3), (35, .pop, 1), (36, .iload_n 3, 1), (37, .ireturn, 1)]
def mc_109 : List (Nat × Instr × Nat) := [(0, .aload_n 0, 1), (1, .aload_n 1, 1), (2, .iload_n 2, 1), (3, .invokevirtual 110, 3), (6, .istore_n 3, 1), (7, .iload_n 3, 1), (8, .iconst (-1), 1), (9, .if_icmp .eq 7, 3), (12, .aload_n 0, 1), (13, .invokevirtual 49, 3), (16, .iload_n 3, 1), (17, .ireturn, 1)]
def mc_110 : List (Nat × Instr × Nat) := [(0, .aload_n 0, 1), (1, .invokespecial 3, 3), (4, .aload_n 0, 1), (5, .new 9, 3), (8, .dup, 1), (9, .invokespecial 11, 3), (12, .putfield 12, 3), (15, .aload_n 0, 1), (16, .new 16, 3), (19, .dup, 1), (20, .invokespecial 18, 3), (23, .putfield 19, 3), (26, .aload_n 0, 1), (27, .new 16, 3), (30, .dup, 1), (31, .invokespecial 18, 3), (34, .putfield 23, 3), (37, .aload_n 0, 1), (38, .new 26, 3), (41, .dup, 1), (42, .aload_n 0, 1), (43, .getfield 12, 3), (46, .aload_n 0, 1), (47, .getfield 23, 3), (50, .invokespecial 28, 3), (53, .putfield 31, 3), (56, .aload_n 0, 1), (57, .new 35, 3), (60, .dup, 1), (61, .aload_n 0, 1), (62, .getfield 19, 3), (65, .getfield 37, 3), (68, .invokespecial 41, 3), (71, .putfield 44, 3), (74, .aload_n 0, 1), (75, .new 35, 3), (78, .dup, 1), (79, .aload_n 0, 1), (80, .getfield 19, 3), (83, .getfield 37, 3), (86, .invokespecial 41, 3), (89, .putfield 48, 3), (92, .aload_n 0, 1), (93, .new 51, 3), (96, .dup, 1), (97, .invokespecial 53, 3), (100, .putfield 54, 3), (103, .aload_n 0, 1), (104, .new 58, 3), (107, .dup, 1), (108, .invokespecial 60, 3), (111, .putfield 61, 3), (114, .aload_n 0, 1), (115, .new 58, 3), (118, .dup, 1), (119, .invokespecial 60, 3), (122, .putfield 65, 3), (125, .aload_n 0, 1), (126, .new 68, 3), (129, .dup, 1), (130, .aload_n 0, 1), (131, .getfield 12, 3), (134, .aload_n 0, 1), (135, .getfield 19, 3), (138, .aload_n 0, 1), (139, .getfield 65, 3), (142, .invokespecial 70, 3), (145, .putfield 73, 3), (148, .aload_n 0, 1), (149, .new 77, 3), (152, .dup, 1), (153, .aload_n 0, 1), (154, .getfield 12, 3), (157, .aload_n 0, 1), (158, .getfield 19, 3), (161, .invokespecial 79, 3), (164, .putfield 80, 3), (167, .aload_n 0, 1), (168, .new 84, 3), (171, .dup, 1), (172, .aload_n 0, 1), (173, .getfield 19, 3), (176, .getfield 37, 3), (179, .invokespecial 86, 3), (182, .putfield 87, 3), (185, .aload_n 0, 1), (186, .new 84, 3), (189, .dup, 1), (190, .aload_n 0, 1), (191, .getfield 19, 3), (194, .getfield 37, 3), (197, .invokespecial 86, 3), (200, .putfield 91, 3), (203, .aload_n 0, 1), (204, .new 94, 3), (207, .dup, 1), (208, .invokespecial 96, 3), (211, .putfield 97, 3), (214, .aload_n 0, 1), (215, .new 94, 3), (218, .dup, 1), (219, .invokespecial 96, 3), (222, .putfield 101, 3), (225, .aload_n 0, 1), (226, .iconst 4, 1), (227, .newarray .int, 2), (229, .putfield 104, 3), (232, .aload_n 0, 1), (233, .iconst 0, 1), (234, .putfield 107, 3), (237, .aload_n 0, 1), (238, .iconst (-1), 1), (239, .putfield 111, 3), (242, .aload_n 0, 1), (243, .iconst (-1), 1), (244, .putfield 115, 3), (247, .return_, 1)]
def mc_111 : List (Nat × Instr × Nat) := [(0, .aload_n 0, 1), (1, .getfield 12, 3), (4, .getfield 118, 3), (7, .bipush 20, 2), (9, .iadd, 1), (10, .sipush 940, 3), (13, .if_icmp .le 5, 3), (16, .iconst (-1), 1), (17, .ireturn, 1), (18, .aload_n 0, 1), (19, .getfield 12, 3), (22, .iload_n 1, 1), (23, .invokevirtual 121, 3), (26, .aload_n 0, 1), (27, .getfield 12, 3), (30, .iload_n 2, 1), (31, .invokevirtual 121, 3), (34, .aload_n 0, 1), (35, .getfield 12, 3), (38, .iload_n 3, 1), (39, .invokevirtual 121, 3), (42, .aload_n 0, 1), (43, .getfield 12, 3), (46, .iload 4, 2), (48, .invokevirtual 121, 3), (51, .aload_n 0, 1), (52, .getfield 12, 3), (55, .iload 5, 2), (57, .invokevirtual 121, 3), (60, .aload_n 0, 1), (61, .getfield 12, 3), (64, .getfield 118, 3), (67, .ireturn, 1)]
def mc_112 : List (Nat × Instr × Nat) := [(0, .iload_n 1, 1), (1, .ifCond .lt 14, 3), (4, .iload_n 1, 1), (5, .aload_n 0, 1), (6, .getfield 12, 3), (9, .getfield 118, 3), (12, .if_icmp .le 5, 3), (15, .iconst 0, 1), (16, .ireturn, 1), (17, .aload_n 0, 1), (18, .getfield 12, 3), (21, .iload_n 1, 1), (22, .putfield 118, 3), (25, .iconst 1, 1), (26, .ireturn, 1)]
def mc_113 : List (Nat × Instr × Nat) := [(0, .aload_n 0, 1), (1, .getfield 31, 3), (4, .invokevirtual 125, 3), (7, .istore_n 1, 1), (8, .aload_n 0, 1), (9, .getfield 12, 3), (12, .iconst 0, 1), (13, .putfield 118, 3), (16, .iload_n 1, 1), (17, .iconst (-1), 1), (18, .if_icmp .ne 13, 3), (21, .iconst (-1), 1), (22, .aload_n 0, 1), (23, .getfield 12, 3), (26, .getfield 129, 3), (29, .isub, 1), (30, .ireturn, 1), (31, .aload_n 0, 1), (32, .getfield 19, 3), (35, .aload_n 0, 1), (36, .getfield 23, 3), (39, .invokevirtual 132, 3), (42, .aload_n 0, 1), (43, .getfield 44, 3), (46, .invokevirtual 136, 3), (49, .aload_n 0, 1), (50, .getfield 61, 3), (53, .invokevirtual 139, 3), (56, .aload_n 0, 1), (57, .getfield 54, 3), (60, .invokevirtual 142, 3), (63, .iload_n 1, 1), (64, .ireturn, 1)]
def mc_114 : List (Nat × Instr × Nat) := [(0, .aload_n 0, 1), (1, .getfield 12, 3), (4, .getfield 145, 3), (7, .ireturn, 1)]
def mc_115 : List (Nat × Instr × Nat) := [(0, .aload_n 0, 1), (1, .iconst 3, 1), (2, .iload_n 1, 1), (3, .invokevirtual 148, 3), (6, .ifCond .ne 5, 3), (9, .iconst (-1), 1), (10, .ireturn, 1), (11, .iload_n 2, 1), (12, .tableswitch 86 0 3 #[32, 47, 62, 77], 32), (44, .aload_n 0, 1), (45, .getfield 19, 3), (48, .getfield 37, 3), (51, .bipush 26, 2), (53, .iload_n 1, 1), (54, .iadd, 1), (55, .invokestatic 152, 3), (58, .ireturn, 1), (59, .aload_n 0, 1), (60, .getfield 19, 3), (63, .getfield 37, 3), (66, .bipush 32, 2), (68, .iload_n 1, 1), (69, .iadd, 1), (70, .invokestatic 152, 3), (73, .ireturn, 1), (74, .aload_n 0, 1), (75, .getfield 19, 3), (78, .getfield 37, 3), (81, .bipush 38, 2), (83, .iload_n 1, 1), (84, .iadd, 1), (85, .invokestatic 152, 3), (88, .ireturn, 1), (89, .aload_n 0, 1), (90, .getfield 44, 3), (93, .iload_n 1, 1), (94, .invokevirtual 156, 3), (97, .ireturn, 1), (98, .iconst (-1), 1), (99, .ireturn, 1)]
def mc_116 : List (Nat × Instr × Nat) := [(0, .aload_n 0, 1), (1, .iconst 0, 1), (2, .iload_n 1, 1), (3, .invokevirtual 148, 3), (6, .ifCond .ne 5, 3), (9, .iconst (-1), 1), (10, .ireturn, 1), (11, .iload_n 2, 1), (12, .tableswitch 67 0 2 #[28, 43, 58], 28), (40, .aload_n 0, 1), (41, .getfield 19, 3), (44, .getfield 37, 3), (47, .bipush 6, 2), (49, .iload_n 1, 1), (50, .iadd, 1), (51, .invokestatic 152, 3), (54, .ireturn, 1), (55, .aload_n 0, 1), (56, .getfield 44, 3), (59, .getfield 163, 3), (62, .bipush 104, 2), (64, .iload_n 1, 1), (65, .iadd, 1), (66, .invokestatic 152, 3), (69, .ireturn, 1), (70, .aload_n 0, 1), (71, .getfield 44, 3), (74, .iload_n 1, 1), (75, .invokevirtual 166, 3), (78, .ireturn, 1), (79, .iconst (-1), 1), (80, .ireturn, 1)]
def mc_117 : List (Nat × Instr × Nat) := [(0, .iload_n 1, 1), (1, .tableswitch 91 0 5 #[39, 47, 55, 63, 71, 83], 39), (40, .aload_n 0, 1), (41, .getfield 44, 3), (44, .invokevirtual 169, 3), (47, .ireturn, 1), (48, .aload_n 0, 1), (49, .getfield 44, 3), (52, .invokevirtual 172, 3), (55, .ireturn, 1), (56, .aload_n 0, 1), (57, .getfield 44, 3), (60, .invokevirtual 175, 3), (63, .ireturn, 1), (64, .aload_n 0, 1), (65, .getfield 44, 3), (68, .invokevirtual 178, 3), (71, .ireturn, 1), (72, .aload_n 0, 1), (73, .getfield 44, 3), (76, .getfield 163, 3), (79, .iconst 1, 1), (80, .invokestatic 152, 3), (83, .ireturn, 1), (84, .aload_n 0, 1), (85, .getfield 44, 3), (88, .invokevirtual 181, 3), (91, .ireturn, 1), (92, .iconst (-1), 1), (93, .ireturn, 1)]
def mc_118 : List (Nat × Instr × Nat) := [(0, .aload_n 0, 1), (1, .iconst 4, 1), (2, .iload_n 1, 1), (3, .invokevirtual 148, 3), (6, .ifCond .eq 23, 3), (9, .aload_n 0, 1), (10, .iconst 0, 1), (11, .iload_n 2, 1), (12, .invokevirtual 148, 3), (15, .ifCond .eq 14, 3), (18, .aload_n 0, 1), (19, .bipush 9, 2), (21, .iload_n 1, 1), (22, .iload_n 2, 1), (23, .invokevirtual 184, 3), (26, .goto 4, 3), (29, .iconst (-1), 1), (30, .ireturn, 1)]
def mc_119 : List (Nat × Instr × Nat) := [(0, .aload_n 0, 1), (1, .iconst 4, 1), (2, .iload_n 1, 1), (3, .invokevirtual 148, 3), (6, .ifCond .eq 23, 3), (9, .aload_n 0, 1), (10, .iconst 2, 1), (11, .iload_n 2, 1), (12, .invokevirtual 148, 3), (15, .ifCond .eq 14, 3), (18, .aload_n 0, 1), (19, .bipush 10, 2), (21, .iload_n 1, 1), (22, .iload_n 2, 1), (23, .invokevirtual 184, 3), (26, .goto 4, 3), (29, .iconst (-1), 1), (30, .ireturn, 1)]
def mc_120 : List (Nat × Instr × Nat) := [(0, .aload_n 0, 1), (1, .iconst 4, 1), (2, .iload_n 1, 1), (3, .invokevirtual 148, 3), (6, .ifCond .eq 12, 3), (9, .iload_n 2, 1), (10, .ifCond .lt 8, 3), (13, .iload_n 2, 1), (14, .iconst 1, 1), (15, .if_icmp .le 5, 3), (18, .iconst (-1), 1), (19, .ireturn, 1), (20, .aload_n 0, 1), (21, .iload_n 2, 1), (22, .iconst 1, 1), (23, .if_icmp .ne 8, 3), (26, .bipush 11, 2), (28, .goto 5, 3), (31, .bipush 12, 2), (33, .iload_n 1, 1), (34, .iconst 0, 1), (35, .invokevirtual 184, 3), (38, .ireturn, 1)]
def mc_121 : List (Nat × Instr × Nat) := [(0, .aload_n 0, 1), (1, .iconst 4, 1), (2, .iload_n 1, 1), (3, .invokevirtual 148, 3), (6, .ifCond .eq 14, 3), (9, .aload_n 0, 1), (10, .bipush 13, 2), (12, .iload_n 1, 1), (13, .iconst 0, 1), (14, .invokevirtual 184, 3), (17, .goto 4, 3), (20, .iconst (-1), 1), (21, .ireturn, 1)]
def mc_122 : List (Nat × Instr × Nat) := [(0, .aload_n 0, 1), (1, .iconst 3, 1), (2, .iload_n 1, 1), (3, .invokevirtual 148, 3), (6, .ifCond .eq 23, 3), (9, .aload_n 0, 1), (10, .iconst 0, 1), (11, .iload_n 2, 1), (12, .invokevirtual 148, 3), (15, .ifCond .eq 14, 3), (18, .aload_n 0, 1), (19, .bipush 14, 2), (21, .iload_n 1, 1), (22, .iload_n 2, 1), (23, .invokevirtual 184, 3), (26, .goto 4, 3), (29, .iconst (-1), 1), (30, .ireturn, 1)]
def mc_123 : List (Nat × Instr × Nat) := [(0, .aload_n 0, 1), (1, .iconst 0, 1), (2, .iload_n 1, 1), (3, .invokevirtual 148, 3), (6, .ifCond .eq 14, 3), (9, .aload_n 0, 1), (10, .bipush 15, 2), (12, .iload_n 1, 1), (13, .iconst 0, 1), (14, .invokevirtual 184, 3), (17, .goto 4, 3), (20, .iconst (-1), 1), (21, .ireturn, 1)]
def mc_124 : List (Nat × Instr × Nat) := [(0, .iload_n 1, 1), (1, .iconst 1, 1), (2, .if_icmp .lt 9, 3), (5, .iload_n 1, 1), (6, .bipush 60, 2), (8, .if_icmp .le 5, 3), (11, .iconst (-1), 1), (12, .ireturn, 1), (13, .iload_n 1, 1), (14, .sipush 400, 3), (17, .aload_n 0, 1), (18, .getfield 44, 3), (21, .invokevirtual 169, 3), (24, .isub, 1), (25, .invokestatic 188, 3), (28, .istore_n 2, 1), (29, .iload_n 2, 1), (30, .ifCond .le 25, 3), (33, .aload_n 0, 1), (34, .getfield 54, 3), (37, .aload_n 0, 1), (38, .getfield 44, 3), (41, .getfield 163, 3), (44, .invokevirtual 194, 3), (47, .aload_n 0, 1), (48, .getfield 44, 3), (51, .iload_n 2, 1), (52, .invokevirtual 197, 3), (55, .iload_n 2, 1), (56, .ireturn, 1)]
def mc_125 : List (Nat × Instr × Nat) := [(0, .aload_n 0, 1), (1, .getfield 54, 3), (4, .aload_n 0, 1), (5, .getfield 44, 3), (8, .getfield 163, 3), (11, .invokevirtual 200, 3), (14, .ireturn, 1)]
def mc_126 : List (Nat × Instr × Nat) := [(0, .aload_n 0, 1), (1, .iload_n 1, 1), (2, .iload_n 2, 1), (3, .invokevirtual 204, 3), (6, .ifCond .eq 15, 3), (9, .aload_n 0, 1), (10, .getfield 44, 3), (13, .iload_n 1, 1), (14, .iload_n 2, 1), (15, .invokevirtual 207, 3), (18, .goto 4, 3), (21, .iconst (-1), 1), (22, .ireturn, 1)]
def mc_127 : List (Nat × Instr × Nat) := [(0, .aload_n 0, 1), (1, .iload_n 1, 1), (2, .iload_n 2, 1), (3, .invokevirtual 204, 3), (6, .ifCond .eq 15, 3), (9, .aload_n 0, 1), (10, .getfield 44, 3), (13, .iload_n 1, 1), (14, .iload_n 2, 1), (15, .invokevirtual 210, 3), (18, .goto 4, 3), (21, .iconst (-1), 1), (22, .ireturn, 1)]
def mc_128 : List (Nat × Instr × Nat) := [(0, .aload_n 0, 1), (1, .iconst 4, 1), (2, .iload_n 1, 1), (3, .invokevirtual 148, 3), (6, .ifCond .eq 14, 3), (9, .aload_n 0, 1), (10, .getfield 44, 3), (13, .iload_n 1, 1), (14, .invokevirtual 213, 3), (17, .goto 4, 3), (20, .iconst (-1), 1), (21, .ireturn, 1)]
def mc_129 : List (Nat × Instr × Nat) := [(0, .aload_n 0, 1), (1, .iconst 4, 1), (2, .iload_n 1, 1), (3, .invokevirtual 148, 3), (6, .ifCond .eq 14, 3), (9, .aload_n 0, 1), (10, .getfield 44, 3), (13, .iload_n 1, 1), (14, .invokevirtual 216, 3), (17, .goto 4, 3), (20, .iconst (-1), 1), (21, .ireturn, 1)]
def mc_130 : List (Nat × Instr × Nat) := [(0, .aload_n 0, 1), (1, .iconst 4, 1), (2, .iload_n 1, 1), (3, .invokevirtual 148, 3), (6, .ifCond .eq 14, 3), (9, .aload_n 0, 1), (10, .getfield 44, 3), (13, .iload_n 1, 1), (14, .invokevirtual 219, 3), (17, .goto 4, 3), (20, .iconst (-1), 1), (21, .ireturn, 1)]
def mc_131 : List (Nat × Instr × Nat) := [(0, .aload_n 0, 1), (1, .iconst 3, 1), (2, .iload_n 1, 1), (3, .invokevirtual 148, 3), (6, .ifCond .eq 14, 3), (9, .aload_n 0, 1), (10, .getfield 44, 3), (13, .iload_n 1, 1), (14, .invokevirtual 222, 3), (17, .goto 4, 3), (20, .iconst (-1), 1), (21, .ireturn, 1)]
def mc_132 : List (Nat × Instr × Nat) := [(0, .aload_n 0, 1), (1, .iload_n 1, 1), (2, .iload_n 2, 1), (3, .invokevirtual 204, 3), (6, .ifCond .eq 15, 3), (9, .aload_n 0, 1), (10, .getfield 44, 3), (13, .iload_n 1, 1), (14, .iload_n 2, 1), (15, .invokevirtual 207, 3), (18, .ifCond .ne 5, 3), (21, .iconst (-1), 1), (22, .ireturn, 1), (23, .aload_n 0, 1), (24, .getfield 44, 3), (27, .iload_n 1, 1), (28, .iload_n 2, 1), (29, .invokevirtual 225, 3), (32, .bipush 9, 2), (34, .iadd, 1), (35, .iconst 1, 1), (36, .iadd, 1), (37, .aload_n 0, 1), (38, .getfield 44, 3), (41, .invokevirtual 169, 3), (44, .isub, 1), (45, .ireturn, 1)]
def mc_133 : List (Nat × Instr × Nat) := [(0, .aload_n 0, 1), (1, .iconst 4, 1), (2, .iload_n 1, 1), (3, .invokevirtual 148, 3), (6, .ifCond .eq 21, 3), (9, .aload_n 0, 1), (10, .iconst 0, 1), (11, .iload_n 2, 1), (12, .invokevirtual 148, 3), (15, .ifCond .eq 12, 3), (18, .aload_n 0, 1), (19, .iconst 3, 1), (20, .iload_n 3, 1), (21, .invokevirtual 228, 3), (24, .ifCond .ne 5, 3), (27, .iconst (-1), 1), (28, .ireturn, 1), (29, .aload_n 0, 1), (30, .getfield 87, 3), (33, .aload_n 0, 1), (34, .getfield 44, 3), (37, .getfield 163, 3), (40, .iconst 2, 1), (41, .iload_n 1, 1), (42, .iadd, 1), (43, .invokestatic 152, 3), (46, .iload_n 2, 1), (47, .aload_n 0, 1), (48, .getfield 44, 3), (51, .iload_n 3, 1), (52, .invokevirtual 231, 3), (55, .invokevirtual 234, 3), (58, .ireturn, 1)]
def mc_134 : List (Nat × Instr × Nat) := [(0, .iload_n 1, 1), (1, .ifCond .lt 28, 3), (4, .iload_n 1, 1), (5, .aload_n 0, 1), (6, .getfield 87, 3), (9, .getfield 237, 3), (12, .if_icmp .ge 17, 3), (15, .aload_n 0, 1), (16, .getfield 87, 3), (19, .getfield 240, 3), (22, .iload_n 1, 1), (23, .invokestatic 152, 3), (26, .goto 4, 3), (29, .iconst (-1), 1), (30, .ireturn, 1)]
def mc_135 : List (Nat × Instr × Nat) := [(0, .aload_n 0, 1), (1, .iconst 4, 1), (2, .iload_n 1, 1), (3, .invokevirtual 148, 3), (6, .ifCond .eq 12, 3), (9, .aload_n 0, 1), (10, .iconst 0, 1), (11, .iload_n 2, 1), (12, .invokevirtual 148, 3), (15, .ifCond .ne 5, 3), (18, .iconst (-1), 1), (19, .ireturn, 1), (20, .aload_n 0, 1), (21, .getfield 91, 3), (24, .aload_n 0, 1), (25, .getfield 44, 3), (28, .getfield 163, 3), (31, .iconst 2, 1), (32, .iload_n 1, 1), (33, .iadd, 1), (34, .invokestatic 152, 3), (37, .iload_n 2, 1), (38, .iconst 0, 1), (39, .invokevirtual 234, 3), (42, .istore_n 3, 1), (43, .iload_n 3, 1), (44, .iconst (-1), 1), (45, .if_icmp .ne 5, 3), (48, .iconst (-1), 1), (49, .ireturn, 1), (50, .iconst 0, 1), (51, .istore 4, 2), (53, .iconst 0, 1), (54, .istore 5, 2), (56, .iload 5, 2), (58, .iload_n 3, 1), (59, .if_icmp .ge 39, 3), (62, .iload 4, 2), (64, .aload_n 0, 1), (65, .getfield 44, 3), (68, .getfield 163, 3), (71, .bipush 104, 2), (73, .aload_n 0, 1), (74, .getfield 91, 3), (77, .getfield 240, 3), (80, .iload 5, 2), (82, .invokestatic 152, 3), (85, .iadd, 1), (86, .invokestatic 152, 3), (89, .ior, 1), (90, .istore 4, 2), (92, .iinc 5 1, 3), (95, .goto (-39), 3), (98, .iload 4, 2), (100, .aload_n 0, 1), (101, .getfield 44, 3), (104, .iload_n 1, 1), (105, .invokevirtual 243, 3), (108, .iconst (-1), 1), (109, .ixor, 1), (110, .iand, 1), (111, .ireturn, 1)]
def mc_136 : List (Nat × Instr × Nat) := [(0, .aload_n 0, 1), (1, .iconst 0, 1), (2, .iload_n 1, 1), (3, .invokevirtual 148, 3), (6, .ifCond .eq 26, 3), (9, .aload_n 0, 1), (10, .iconst 0, 1), (11, .iload_n 2, 1), (12, .invokevirtual 148, 3), (15, .ifCond .eq 17, 3), (18, .iload_n 1, 1), (19, .iload_n 2, 1), (20, .if_icmp .eq 12, 3), (23, .aload_n 0, 1), (24, .iconst 3, 1), (25, .iload_n 3, 1), (26, .invokevirtual 148, 3), (29, .ifCond .ne 5, 3), (32, .iconst (-1), 1), (33, .ireturn, 1), (34, .iconst 1, 1), (35, .iload_n 1, 1), (36, .ishl, 1), (37, .iconst 1, 1), (38, .iload_n 2, 1), (39, .ishl, 1), (40, .ior, 1), (41, .istore 4, 2), (43, .aload_n 0, 1), (44, .getfield 44, 3), (47, .iload_n 3, 1), (48, .invokevirtual 156, 3), (51, .istore 5, 2), (53, .iload 5, 2), (55, .iload 4, 2), (57, .iand, 1), (58, .ifCond .eq 5, 3), (61, .iconst 0, 1), (62, .ireturn, 1), (63, .aload_n 0, 1), (64, .getfield 19, 3), (67, .iload_n 1, 1), (68, .iload_n 2, 1), (69, .invokevirtual 246, 3), (72, .ifCond .eq 5, 3), (75, .iconst (-1), 1), (76, .ireturn, 1), (77, .aload_n 0, 1), (78, .iconst 0, 1), (79, .invokevirtual 249, 3), (82, .istore 6, 2), (84, .iconst 0, 1), (85, .istore 7, 2), (87, .iload 7, 2), (89, .iload 6, 2), (91, .if_icmp .gt 65, 3), (94, .iconst 0, 1), (95, .istore 8, 2), (97, .iload 8, 2), (99, .iconst 1, 1), (100, .iload 6, 2), (102, .ishl, 1), (103, .if_icmp .ge 47, 3), (106, .iload 8, 2), (108, .invokestatic 252, 3), (111, .iload 7, 2), (113, .if_icmp .ne 31, 3), (116, .iload 8, 2), (118, .iload 4, 2), (120, .iand, 1), (121, .ifCond .ne 23, 3), (124, .aload_n 0, 1), (125, .getfield 19, 3), (128, .iload_n 1, 1), (129, .iload_n 2, 1), (130, .iload 5, 2), (132, .iload 8, 2), (134, .ior, 1), (135, .invokevirtual 257, 3), (138, .ifCond .eq 6, 3), (141, .iload 8, 2), (143, .ireturn, 1), (144, .iinc 8 1, 3), (147, .goto (-50), 3), (150, .iinc 7 1, 3), (153, .goto (-66), 3), (156, .iconst (-1), 1), (157, .ireturn, 1)]
def mc_137 : List (Nat × Instr × Nat) := [(0, .aload_n 0, 1), (1, .iconst 0, 1), (2, .invokevirtual 249, 3), (5, .istore_n 3, 1), (6, .aload_n 0, 1), (7, .iconst 3, 1), (8, .iload_n 1, 1), (9, .invokevirtual 148, 3), (12, .ifCond .eq 18, 3), (15, .iload_n 2, 1), (16, .iconst 1, 1), (17, .if_icmp .lt 13, 3), (20, .iload_n 2, 1), (21, .iconst 3, 1), (22, .if_icmp .gt 8, 3), (25, .iload_n 2, 1), (26, .iload_n 3, 1), (27, .if_icmp .le 5, 3), (30, .iconst (-1), 1), (31, .ireturn, 1), (32, .iconst (-1), 1), (33, .istore 4, 2), (35, .iconst 0, 1), (36, .istore 5, 2), (38, .iconst 1, 1), (39, .istore 6, 2), (41, .iload 6, 2), (43, .iconst 1, 1), (44, .iload_n 3, 1), (45, .ishl, 1), (46, .if_icmp .ge 57, 3), (49, .iload 6, 2), (51, .invokestatic 252, 3), (54, .iload_n 2, 1), (55, .if_icmp .eq 6, 3), (58, .goto 39, 3), (61, .aload_n 0, 1), (62, .iload_n 1, 1), (63, .iload 6, 2), (65, .invokevirtual 261, 3), (68, .istore 7, 2), (70, .iload 4, 2), (72, .iconst (-1), 1), (73, .if_icmp .eq 16, 3), (76, .iload 7, 2), (78, .invokestatic 252, 3), (81, .iload 5, 2), (83, .invokestatic 252, 3), (86, .if_icmp .le 11, 3), (89, .iload 6, 2), (91, .istore 4, 2), (93, .iload 7, 2), (95, .istore 5, 2), (97, .iinc 6 1, 3), (100, .goto (-59), 3), (103, .aload_n 0, 1), (104, .iload 5, 2), (106, .putfield 111, 3), (109, .iload 4, 2), (111, .ireturn, 1)]
def mc_138 : List (Nat × Instr × Nat) := [(0, .aload_n 0, 1), (1, .getfield 111, 3), (4, .ireturn, 1)]
def mc_139 : List (Nat × Instr × Nat) := [(0, .aload_n 0, 1), (1, .iconst 2, 1), (2, .iload_n 1, 1), (3, .invokevirtual 228, 3), (6, .ifCond .ne 5, 3), (9, .iconst (-1), 1), (10, .ireturn, 1), (11, .iconst 0, 1), (12, .istore_n 2, 1), (13, .iconst 1, 1), (14, .aload_n 0, 1), (15, .iconst 3, 1), (16, .invokevirtual 249, 3), (19, .ishl, 1), (20, .iconst 1, 1), (21, .isub, 1), (22, .istore_n 3, 1), (23, .iconst 0, 1), (24, .istore 4, 2), (26, .iload 4, 2), (28, .iconst 1, 1), (29, .aload_n 0, 1), (30, .iconst 3, 1), (31, .invokevirtual 249, 3), (34, .ishl, 1), (35, .if_icmp .ge 30, 3), (38, .aload_n 0, 1), (39, .getfield 19, 3), (42, .iload 4, 2), (44, .invokevirtual 264, 3), (47, .iload_n 1, 1), (48, .if_icmp .ne 11, 3), (51, .iinc 2 1, 3), (54, .iload_n 3, 1), (55, .iload 4, 2), (57, .iand, 1), (58, .istore_n 3, 1), (59, .iinc 4 1, 3), (62, .goto (-36), 3), (65, .iload_n 2, 1), (66, .ifCond .le 8, 3), (69, .aload_n 0, 1), (70, .iload_n 3, 1), (71, .putfield 115, 3), (74, .iload_n 2, 1), (75, .ireturn, 1)]
def mc_140 : List (Nat × Instr × Nat) := [(0, .aload_n 0, 1), (1, .getfield 115, 3), (4, .ireturn, 1)]
def mc_141 : List (Nat × Instr × Nat) := [(0, .aload_n 0, 1), (1, .iload_n 1, 1), (2, .iload_n 2, 1), (3, .invokevirtual 204, 3), (6, .ifCond .eq 14, 3), (9, .iload_n 3, 1), (10, .iconst 1, 1), (11, .if_icmp .lt 9, 3), (14, .iload_n 3, 1), (15, .bipush 60, 2), (17, .if_icmp .le 5, 3), (20, .iconst (-1), 1), (21, .ireturn, 1), (22, .aload_n 0, 1), (23, .getfield 48, 3), (26, .aload_n 0, 1), (27, .getfield 44, 3), (30, .invokevirtual 267, 3), (33, .iconst 0, 1), (34, .istore 4, 2), (36, .iload 4, 2), (38, .iload_n 3, 1), (39, .if_icmp .gt 47, 3), (42, .aload_n 0, 1), (43, .getfield 48, 3), (46, .iload_n 1, 1), (47, .invokevirtual 213, 3), (50, .iload_n 2, 1), (51, .ishr, 1), (52, .iconst 1, 1), (53, .iand, 1), (54, .iconst 1, 1), (55, .if_icmp .ne 11, 3), (58, .aload_n 0, 1), (59, .getfield 48, 3), (62, .invokevirtual 169, 3), (65, .ireturn, 1), (66, .iload 4, 2), (68, .iload_n 3, 1), (69, .if_icmp .ge 11, 3), (72, .aload_n 0, 1), (73, .getfield 48, 3), (76, .iconst 1, 1), (77, .invokevirtual 197, 3), (80, .iinc 4 1, 3), (83, .goto (-47), 3), (86, .iconst (-1), 1), (87, .ireturn, 1)]
def mc_142 : List (Nat × Instr × Nat) := [(0, .aload_n 0, 1), (1, .iconst 4, 1), (2, .iload_n 1, 1), (3, .invokevirtual 148, 3), (6, .ifCond .eq 14, 3), (9, .aload_n 0, 1), (10, .getfield 19, 3), (13, .iload_n 1, 1), (14, .invokevirtual 270, 3), (17, .goto 4, 3), (20, .iconst (-1), 1), (21, .ireturn, 1)]
def mc_143 : List (Nat × Instr × Nat) := [(0, .iload_n 1, 1), (1, .iconst 1, 1), (2, .if_icmp .lt 17, 3), (5, .iload_n 1, 1), (6, .bipush 60, 2), (8, .if_icmp .gt 11, 3), (11, .aload_n 0, 1), (12, .iconst 0, 1), (13, .invokevirtual 249, 3), (16, .ifCond .ne 5, 3), (19, .iconst (-1), 1), (20, .ireturn, 1), (21, .iload_n 1, 1), (22, .sipush 400, 3), (25, .aload_n 0, 1), (26, .getfield 44, 3), (29, .invokevirtual 169, 3), (32, .isub, 1), (33, .invokestatic 188, 3), (36, .istore_n 3, 1), (37, .iload_n 3, 1), (38, .ifCond .le 26, 3), (41, .aload_n 0, 1), (42, .getfield 54, 3), (45, .aload_n 0, 1), (46, .getfield 44, 3), (49, .getfield 163, 3), (52, .invokevirtual 194, 3), (55, .aload_n 0, 1), (56, .getfield 44, 3), (59, .iload_n 3, 1), (60, .iload_n 2, 1), (61, .invokevirtual 273, 3), (64, .iload_n 3, 1), (65, .ireturn, 1)]
def mc_144 : List (Nat × Instr × Nat) := [(0, .aload_n 0, 1), (1, .iconst 4, 1), (2, .iload_n 1, 1), (3, .invokevirtual 148, 3), (6, .ifCond .eq 14, 3), (9, .iload_n 2, 1), (10, .iconst 1, 1), (11, .if_icmp .lt 9, 3), (14, .iload_n 2, 1), (15, .bipush 30, 2), (17, .if_icmp .le 5, 3), (20, .iconst (-1), 1), (21, .ireturn, 1), (22, .iconst 0, 1), (23, .istore 4, 2), (25, .iconst 0, 1), (26, .istore 5, 2), (28, .iload 5, 2), (30, .iload_n 2, 1), (31, .if_icmp .ge 47, 3), (34, .aload_n 0, 1), (35, .getfield 48, 3), (38, .aload_n 0, 1), (39, .getfield 44, 3), (42, .invokevirtual 267, 3), (45, .aload_n 0, 1), (46, .getfield 48, 3), (49, .bipush 20, 2), (51, .iload_n 3, 1), (52, .iload 5, 2), (54, .iadd, 1), (55, .invokevirtual 273, 3), (58, .aload_n 0, 1), (59, .getfield 48, 3), (62, .iload_n 1, 1), (63, .invokevirtual 213, 3), (66, .ifCond .ne 6, 3), (69, .iinc 4 1, 3), (72, .iinc 5 1, 3), (75, .goto (-47), 3), (78, .iload 4, 2), (80, .ireturn, 1)]
def mc_145 : List (Nat × Instr × Nat) := [(0, .iload_n 1, 1), (1, .ifCond .eq 12, 3), (4, .iload_n 1, 1), (5, .iconst 1, 1), (6, .if_icmp .eq 7, 3), (9, .sipush (-1000), 3), (12, .ireturn, 1), (13, .aload_n 0, 1), (14, .getfield 80, 3), (17, .invokevirtual 277, 3), (20, .istore_n 2, 1), (21, .aload_n 0, 1), (22, .getfield 12, 3), (25, .iconst 0, 1), (26, .putfield 118, 3), (29, .iload_n 2, 1), (30, .ifCond .ne 14, 3), (33, .bipush (-2), 2), (35, .aload_n 0, 1), (36, .getfield 12, 3), (39, .getfield 129, 3), (42, .isub, 1), (43, .ireturn, 1), (44, .iload_n 1, 1), (45, .iconst 1, 1), (46, .if_icmp .ne 26, 3), (49, .aload_n 0, 1), (50, .getfield 54, 3), (53, .aload_n 0, 1), (54, .getfield 44, 3), (57, .getfield 163, 3), (60, .invokevirtual 194, 3), (63, .aload_n 0, 1), (64, .aload_n 0, 1), (65, .getfield 44, 3), (68, .invokevirtual 280, 3), (71, .ireturn, 1), (72, .aload_n 0, 1), (73, .getfield 48, 3), (76, .aload_n 0, 1), (77, .getfield 44, 3), (80, .invokevirtual 267, 3), (83, .aload_n 0, 1), (84, .aload_n 0, 1), (85, .getfield 48, 3), (88, .invokevirtual 280, 3), (91, .ireturn, 1)]
def mc_146 : List (Nat × Instr × Nat) := [(0, .aload_n 0, 1), (1, .getfield 107, 3), (4, .ifCond .eq 27, 3), (7, .iload_n 1, 1), (8, .ifCond .lt 23, 3), (11, .iload_n 1, 1), (12, .aload_n 0, 1), (13, .getfield 104, 3), (16, .arraylength, 1), (17, .if_icmp .ge 14, 3), (20, .aload_n 0, 1), (21, .getfield 104, 3), (24, .iload_n 1, 1), (25, .invokestatic 152, 3), (28, .goto 4, 3), (31, .iconst (-1), 1), (32, .ireturn, 1)]
def mc_147 : List (Nat × Instr × Nat) := [(0, .aload_n 0, 1), (1, .getfield 73, 3), (4, .invokevirtual 284, 3), (7, .istore_n 1, 1), (8, .aload_n 0, 1), (9, .getfield 12, 3), (12, .iconst 0, 1), (13, .putfield 118, 3), (16, .iload_n 1, 1), (17, .iconst (-1), 1), (18, .if_icmp .ne 13, 3), (21, .iconst (-1), 1), (22, .aload_n 0, 1), (23, .getfield 12, 3), (26, .getfield 129, 3), (29, .isub, 1), (30, .ireturn, 1), (31, .aload_n 0, 1), (32, .getfield 61, 3), (35, .aload_n 0, 1), (36, .getfield 65, 3), (39, .invokevirtual 287, 3), (42, .iload_n 1, 1), (43, .ireturn, 1)]
def mc_148 : List (Nat × Instr × Nat) := [(0, .aload_n 0, 1), (1, .getfield 61, 3), (4, .getfield 290, 3), (7, .ifCond .ne 5, 3), (10, .iconst (-1), 1), (11, .ireturn, 1), (12, .aload_n 0, 1), (13, .getfield 61, 3), (16, .aload_n 0, 1), (17, .getfield 44, 3), (20, .invokevirtual 293, 3), (23, .istore_n 2, 1), (24, .iload_n 1, 1), (25, .iconst (-1), 1), (26, .if_icmp .ne 8, 3), (29, .iload_n 2, 1), (30, .invokestatic 252, 3), (33, .ireturn, 1), (34, .iconst 0, 1), (35, .istore_n 3, 1), (36, .iconst 0, 1), (37, .istore 4, 2), (39, .iload 4, 2), (41, .aload_n 0, 1), (42, .iconst 4, 1), (43, .invokevirtual 249, 3), (46, .if_icmp .ge 30, 3), (49, .iload_n 2, 1), (50, .iload 4, 2), (52, .ishr, 1), (53, .iconst 1, 1), (54, .iand, 1), (55, .iconst 1, 1), (56, .if_icmp .ne 14, 3), (59, .iload_n 3, 1), (60, .iload_n 1, 1), (61, .if_icmp .ne 6, 3), (64, .iload 4, 2), (66, .ireturn, 1), (67, .iinc 3 1, 3), (70, .iinc 4 1, 3), (73, .goto (-34), 3), (76, .iconst (-1), 1), (77, .ireturn, 1)]
def mc_149 : List (Nat × Instr × Nat) := [(0, .iload_n 1, 1), (1, .ifCond .eq 10, 3), (4, .iload_n 1, 1), (5, .iconst 1, 1), (6, .if_icmp .eq 5, 3), (9, .iconst 0, 1), (10, .ireturn, 1), (11, .aload_n 0, 1), (12, .iload_n 1, 1), (13, .invokevirtual 296, 3), (16, .aload_n 0, 1), (17, .getfield 19, 3), (20, .aload_n 0, 1), (21, .getfield 44, 3), (24, .aload_n 0, 1), (25, .getfield 61, 3), (28, .invokevirtual 300, 3), (31, .iconst 1, 1), (32, .ireturn, 1)]
def mc_150 : List (Nat × Instr × Nat) := [(0, .iload_n 1, 1), (1, .ifCond .eq 8, 3), (4, .iload_n 1, 1), (5, .iconst 1, 1), (6, .if_icmp .ne 14, 3), (9, .aload_n 0, 1), (10, .iload_n 1, 1), (11, .invokevirtual 296, 3), (14, .getfield 304, 3), (17, .ifCond .ne 5, 3), (20, .iconst 0, 1), (21, .ireturn, 1), (22, .aload_n 0, 1), (23, .iload_n 1, 1), (24, .invokevirtual 296, 3), (27, .aload_n 0, 1), (28, .getfield 19, 3), (31, .aload_n 0, 1), (32, .getfield 44, 3), (35, .aload_n 0, 1), (36, .getfield 61, 3), (39, .invokevirtual 307, 3), (42, .aload_n 0, 1), (43, .getfield 54, 3), (46, .invokevirtual 142, 3), (49, .iconst 1, 1), (50, .ireturn, 1)]
def mc_151 : List (Nat × Instr × Nat) := [(0, .iload_n 1, 1), (1, .ifCond .lt 20, 3), (4, .iload_n 1, 1), (5, .iconst 4, 1), (6, .if_icmp .gt 15, 3), (9, .aload_n 0, 1), (10, .getfield 19, 3), (13, .getfield 37, 3), (16, .iload_n 1, 1), (17, .invokestatic 152, 3), (20, .ireturn, 1), (21, .iload_n 1, 1), (22, .iconst 5, 1), (23, .if_icmp .ne 13, 3), (26, .aload_n 0, 1), (27, .getfield 12, 3), (30, .getfield 118, 3), (33, .goto 4, 3), (36, .iconst (-1), 1), (37, .ireturn, 1)]
def mc_152 : List (Nat × Instr × Nat) := [(0, .iload_n 2, 1), (1, .ifCond .lt 22, 3), (4, .iload_n 2, 1), (5, .aload_n 0, 1), (6, .getfield 19, 3), (9, .getfield 37, 3), (12, .iload_n 1, 1), (13, .invokestatic 152, 3), (16, .if_icmp .ge 7, 3), (19, .iconst 1, 1), (20, .goto 4, 3), (23, .iconst 0, 1), (24, .ireturn, 1)]
def mc_153 : List (Nat × Instr × Nat) := [(0, .iload_n 2, 1), (1, .ifCond .lt 24, 3), (4, .iload_n 2, 1), (5, .iconst 1, 1), (6, .aload_n 0, 1), (7, .getfield 19, 3), (10, .getfield 37, 3), (13, .iload_n 1, 1), (14, .invokestatic 152, 3), (17, .ishl, 1), (18, .if_icmp .ge 7, 3), (21, .iconst 1, 1), (22, .goto 4, 3), (25, .iconst 0, 1), (26, .ireturn, 1)]
def mc_154 : List (Nat × Instr × Nat) := [(0, .aload_n 0, 1), (1, .iconst 4, 1), (2, .iload_n 1, 1), (3, .invokevirtual 148, 3), (6, .ifCond .eq 16, 3), (9, .aload_n 0, 1), (10, .iconst 3, 1), (11, .iload_n 2, 1), (12, .invokevirtual 148, 3), (15, .ifCond .eq 7, 3), (18, .iconst 1, 1), (19, .goto 4, 3), (22, .iconst 0, 1), (23, .ireturn, 1)]
def mc_155 : List (Nat × Instr × Nat) := [(0, .iload_n 1, 1), (1, .ifCond .ne 10, 3), (4, .aload_n 0, 1), (5, .getfield 97, 3), (8, .goto 7, 3), (11, .aload_n 0, 1), (12, .getfield 101, 3), (15, .areturn, 1)]
def mc_156 : List (Nat × Instr × Nat) := [(0, .aload_n 0, 1), (1, .getfield 44, 3), (4, .iload_n 1, 1), (5, .iload_n 2, 1), (6, .iload_n 3, 1), (7, .invokevirtual 310, 3), (10, .istore 4, 2), (12, .iload 4, 2), (14, .ifCond .ne 27, 3), (17, .aload_n 0, 1), (18, .getfield 54, 3), (21, .aload_n 0, 1), (22, .getfield 44, 3), (25, .getfield 163, 3), (28, .invokevirtual 194, 3), (31, .aload_n 0, 1), (32, .getfield 44, 3), (35, .iload_n 1, 1), (36, .iload_n 2, 1), (37, .iload_n 3, 1), (38, .invokevirtual 313, 3), (41, .iload 4, 2), (43, .ireturn, 1)]
def mc_157 : List (Nat × Instr × Nat) := [(0, .aload_n 0, 1), (1, .getfield 48, 3), (4, .aload_n 0, 1), (5, .getfield 44, 3), (8, .invokevirtual 267, 3), (11, .iconst 0, 1), (12, .istore_n 3, 1), (13, .iload_n 3, 1), (14, .aload_n 0, 1), (15, .iconst 0, 1), (16, .invokevirtual 249, 3), (19, .if_icmp .ge 43, 3), (22, .iload_n 2, 1), (23, .iload_n 3, 1), (24, .ishr, 1), (25, .iconst 1, 1), (26, .iand, 1), (27, .iconst 1, 1), (28, .if_icmp .ne 28, 3), (31, .aload_n 0, 1), (32, .getfield 48, 3), (35, .bipush 14, 2), (37, .iload_n 1, 1), (38, .iload_n 3, 1), (39, .invokevirtual 310, 3), (42, .ifCond .ne 14, 3), (45, .aload_n 0, 1), (46, .getfield 48, 3), (49, .bipush 14, 2), (51, .iload_n 1, 1), (52, .iload_n 3, 1), (53, .invokevirtual 313, 3), (56, .iinc 3 1, 3), (59, .goto (-46), 3), (62, .aload_n 0, 1), (63, .getfield 48, 3), (66, .bipush 7, 2), (68, .invokevirtual 197, 3), (71, .iconst 0, 1), (72, .istore_n 3, 1), (73, .iconst 0, 1), (74, .istore 4, 2), (76, .iload 4, 2), (78, .aload_n 0, 1), (79, .iconst 4, 1), (80, .invokevirtual 249, 3), (83, .if_icmp .ge 28, 3), (86, .iload_n 3, 1), (87, .aload_n 0, 1), (88, .getfield 48, 3), (91, .iload 4, 2), (93, .invokevirtual 243, 3), (96, .iload_n 1, 1), (97, .ishr, 1), (98, .iconst 1, 1), (99, .iand, 1), (100, .iload 4, 2), (102, .ishl, 1), (103, .ior, 1), (104, .istore_n 3, 1), (105, .iinc 4 1, 3), (108, .goto (-32), 3), (111, .iload_n 3, 1), (112, .ireturn, 1)]
def mc_158 : List (Nat × Instr × Nat) := [(0, .iconst (-1), 1), (1, .istore_n 2, 1), (2, .iconst 0, 1), (3, .istore_n 3, 1), (4, .iconst 0, 1), (5, .istore 4, 2), (7, .iload 4, 2), (9, .aload_n 0, 1), (10, .getfield 80, 3), (13, .getfield 317, 3), (16, .if_icmp .ge 114, 3), (19, .iload_n 2, 1), (20, .iconst (-1), 1), (21, .if_icmp .ne 109, 3), (24, .aload_n 0, 1), (25, .getfield 80, 3), (28, .getfield 320, 3), (31, .iload 4, 2), (33, .invokestatic 152, 3), (36, .istore 5, 2), (38, .aload_n 0, 1), (39, .getfield 80, 3), (42, .getfield 323, 3), (45, .iload 4, 2), (47, .invokestatic 152, 3), (50, .istore 6, 2), (52, .aload_n 0, 1), (53, .getfield 80, 3), (56, .getfield 326, 3), (59, .iload 4, 2), (61, .invokestatic 152, 3), (64, .istore 7, 2), (66, .aload_n 1, 1), (67, .iload 5, 2), (69, .iload 6, 2), (71, .iload 7, 2), (73, .invokevirtual 310, 3), (76, .istore_n 3, 1), (77, .iload_n 3, 1), (78, .ifCond .eq 20, 3), (81, .iload_n 3, 1), (82, .bipush 10, 2), (84, .iload 5, 2), (86, .bipush 9, 2), (88, .isub, 1), (89, .imul, 1), (90, .iadd, 1), (91, .istore_n 3, 1), (92, .iload 4, 2), (94, .istore_n 2, 1), (95, .goto 29, 3), (98, .iload 5, 2), (100, .bipush 16, 2), (102, .if_icmp .ne 12, 3), (105, .aload_n 1, 1), (106, .iload 6, 2), (108, .invokevirtual 197, 3), (111, .goto 13, 3), (114, .aload_n 1, 1), (115, .iload 5, 2), (117, .iload 6, 2), (119, .iload 7, 2), (121, .invokevirtual 313, 3), (124, .iinc 4 1, 3), (127, .goto (-120), 3), (130, .aload_n 0, 1), (131, .getfield 104, 3), (134, .iconst 0, 1), (135, .iload_n 3, 1), (136, .invokestatic 329, 3), (139, .aload_n 0, 1), (140, .getfield 104, 3), (143, .iconst 1, 1), (144, .iload_n 2, 1), (145, .iconst (-1), 1), (146, .if_icmp .ne 13, 3), (149, .aload_n 0, 1), (150, .getfield 80, 3), (153, .getfield 317, 3), (156, .goto 4, 3), (159, .iload_n 2, 1), (160, .invokestatic 329, 3), (163, .aload_n 0, 1), (164, .getfield 104, 3), (167, .iconst 2, 1), (168, .aload_n 1, 1), (169, .invokevirtual 169, 3), (172, .invokestatic 329, 3), (175, .aload_n 0, 1), (176, .getfield 104, 3), (179, .iconst 3, 1), (180, .aload_n 1, 1), (181, .invokevirtual 181, 3), (184, .invokestatic 329, 3), (187, .aload_n 0, 1), (188, .iconst 1, 1), (189, .putfield 107, 3), (192, .iload_n 2, 1), (193, .ireturn, 1)]
def mc_159 : List (Nat × Instr × Nat) := [(0, .iload_n 1, 1), (1, .ifCond .lt 15, 3), (4, .iload_n 1, 1), (5, .aload_n 0, 1), (6, .arraylength, 1), (7, .if_icmp .ge 9, 3), (10, .aload_n 0, 1), (11, .iload_n 1, 1), (12, .iaload, 1), (13, .goto 4, 3), (16, .iconst 0, 1), (17, .ireturn, 1)]
def mc_160 : List (Nat × Instr × Nat) := [(0, .iload_n 1, 1), (1, .ifCond .lt 13, 3), (4, .iload_n 1, 1), (5, .aload_n 0, 1), (6, .arraylength, 1), (7, .if_icmp .ge 7, 3), (10, .aload_n 0, 1), (11, .iload_n 1, 1), (12, .iload_n 2, 1), (13, .iastore, 1), (14, .return_, 1)]
def mc_161 : List (Nat × Instr × Nat) := [(0, .aload_n 0, 1), (1, .iconst 0, 1), (2, .aload_n 1, 1), (3, .iconst 0, 1), (4, .aload_n 0, 1), (5, .arraylength, 1), (6, .aload_n 1, 1), (7, .arraylength, 1), (8, .invokestatic 188, 3), (11, .invokestatic 333, 3), (14, .return_, 1)]
def mc_162 : List (Nat × Instr × Nat) := [(0, .aload_n 0, 1), (1, .iload_n 1, 1), (2, .ifCond .eq 7, 3), (5, .iconst 1, 1), (6, .goto 4, 3), (9, .iconst 0, 1), (10, .putfield 1, 3), (13, .iload_n 1, 1), (14, .ireturn, 1)]
def mc_163 : List (Nat × Instr × Nat) := [(0, .aload_n 0, 1), (1, .iconst 0, 1), (2, .putfield 1, 3), (5, .aload_n 0, 1), (6, .getfield 7, 3), (9, .bipush 20, 2), (11, .iadd, 1), (12, .sipush 940, 3), (15, .if_icmp .le 5, 3), (18, .iconst (-1), 1), (19, .ireturn, 1), (20, .aload_n 0, 1), (21, .iload_n 1, 1), (22, .invokevirtual 10, 3), (25, .aload_n 0, 1), (26, .iload_n 2, 1), (27, .invokevirtual 10, 3), (30, .aload_n 0, 1), (31, .iload_n 3, 1), (32, .invokevirtual 10, 3), (35, .aload_n 0, 1), (36, .iload 4, 2), (38, .invokevirtual 10, 3), (41, .aload_n 0, 1), (42, .iload 5, 2), (44, .invokevirtual 10, 3), (47, .aload_n 0, 1), (48, .getfield 7, 3), (51, .ireturn, 1)]
def mc_164 : List (Nat × Instr × Nat) := [(0, .bipush 24, 2), (2, .istore_n 2, 1), (3, .iload_n 2, 1), (4, .ifCond .lt 32, 3), (7, .aload_n 0, 1), (8, .getfield 14, 3), (11, .aload_n 0, 1), (12, .getfield 7, 3), (15, .iload_n 1, 1), (16, .iload_n 2, 1), (17, .ishr, 1), (18, .i2b, 1), (19, .bastore, 1), (20, .aload_n 0, 1), (21, .dup, 1), (22, .getfield 7, 3), (25, .iconst 1, 1), (26, .iadd, 1), (27, .putfield 7, 3), (30, .iinc 2 (-8), 3), (33, .goto (-30), 3), (36, .return_, 1)]
def mc_165 : List (Nat × Instr × Nat) := [(0, .aload_n 0, 1), (1, .iconst 0, 1), (2, .putfield 1, 3), (5, .iload_n 1, 1), (6, .ifCond .lt 11, 3), (9, .iload_n 1, 1), (10, .aload_n 0, 1), (11, .getfield 7, 3), (14, .if_icmp .le 5, 3), (17, .iconst 0, 1), (18, .ireturn, 1), (19, .aload_n 0, 1), (20, .iload_n 1, 1), (21, .putfield 7, 3), (24, .iconst 1, 1), (25, .ireturn, 1)]
def mc_166 : List (Nat × Instr × Nat) := [(0, .aload_n 0, 1), (1, .aload_n 0, 1), (2, .getfield 7, 3), (5, .putfield 18, 3), (8, .aload_n 0, 1), (9, .iconst 0, 1), (10, .putfield 7, 3), (13, .aload_n 0, 1), (14, .iconst 0, 1), (15, .putfield 21, 3), (18, .aload_n 0, 1), (19, .iload_n 1, 1), (20, .putfield 24, 3), (23, .return_, 1)]
def mc_167 : List (Nat × Instr × Nat) := [(0, .iload_n 0, 1), (1, .iload_n 1, 1), (2, .if_icmp .lt 12, 3), (5, .iload_n 0, 1), (6, .iload_n 2, 1), (7, .if_icmp .gt 7, 3), (10, .iconst 1, 1), (11, .goto 4, 3), (14, .iconst 0, 1), (15, .ireturn, 1)]
def mc_168 : List (Nat × Instr × Nat) := [(0, .iload_n 0, 1), (1, .iload_n 1, 1), (2, .ishr, 1), (3, .iconst 1, 1), (4, .iand, 1), (5, .iconst 1, 1), (6, .if_icmp .ne 7, 3), (9, .iconst 1, 1), (10, .goto 4, 3), (13, .iconst 0, 1), (14, .ireturn, 1)]
def mc_169 : List (Nat × Instr × Nat) := [(0, .iload_n 0, 1), (1, .iload_n 1, 1), (2, .if_icmp .ge 7, 3), (5, .iload_n 0, 1), (6, .goto 4, 3), (9, .iload_n 1, 1), (10, .ireturn, 1)]
def mc_170 : List (Nat × Instr × Nat) := [(0, .iload_n 0, 1), (1, .iload_n 1, 1), (2, .if_icmp .le 7, 3), (5, .iload_n 0, 1), (6, .goto 4, 3), (9, .iload_n 1, 1), (10, .ireturn, 1)]
def mc_171 : List (Nat × Instr × Nat) := [(0, .iconst 0, 1), (1, .istore_n 1, 1), (2, .iload_n 0, 1), (3, .istore_n 2, 1), (4, .iload_n 2, 1), (5, .ifCond .eq 15, 3), (8, .iinc 1 1, 3), (11, .iload_n 2, 1), (12, .iload_n 2, 1), (13, .iconst 1, 1), (14, .isub, 1), (15, .iand, 1), (16, .istore_n 2, 1), (17, .goto (-13), 3), (20, .iload_n 1, 1), (21, .ireturn, 1)]
def mc_172 : List (Nat × Instr × Nat) := [(0, .aload_n 0, 1), (1, .invokespecial 27, 3), (4, .aload_n 0, 1), (5, .sipush 940, 3), (8, .newarray .byte, 2), (10, .putfield 14, 3), (13, .aload_n 0, 1), (14, .sipush 411, 3), (17, .newarray .int, 2), (19, .putfield 33, 3), (22, .aload_n 0, 1), (23, .bipush 115, 2), (25, .newarray .int, 2), (27, .putfield 37, 3), (30, .aload_n 0, 1), (31, .sipush 135, 3), (34, .newarray .int, 2), (36, .putfield 40, 3), (39, .aload_n 0, 1), (40, .bipush 54, 2), (42, .newarray .long, 2), (44, .putfield 43, 3), (47, .aload_n 0, 1), (48, .bipush 29, 2), (50, .newarray .long, 2), (52, .putfield 47, 3), (55, .aload_n 0, 1), (56, .sipush 920, 3), (59, .newarray .int, 2), (61, .putfield 50, 3), (64, .aload_n 0, 1), (65, .bipush 115, 2), (67, .newarray .int, 2), (69, .putfield 53, 3), (72, .aload_n 0, 1), (73, .bipush 10, 2), (75, .newarray .int, 2), (77, .putfield 56, 3), (80, .aload_n 0, 1), (81, .bipush 10, 2), (83, .newarray .int, 2), (85, .putfield 59, 3), (88, .aload_n 0, 1), (89, .bipush 10, 2), (91, .newarray .int, 2), (93, .putfield 62, 3), (96, .aload_n 0, 1), (97, .iconst 4, 1), (98, .newarray .int, 2), (100, .putfield 65, 3), (103, .aload_n 0, 1), (104, .bipush 45, 2), (106, .newarray .int, 2), (108, .putfield 68, 3), (111, .aload_n 0, 1), (112, .bipush 45, 2), (114, .newarray .boolean, 2), (116, .putfield 71, 3), (119, .aload_n 0, 1), (120, .sipush 822, 3), (123, .newarray .int, 2), (125, .putfield 75, 3), (128, .aload_n 0, 1), (129, .bipush 54, 2), (131, .newarray .long, 2), (133, .putfield 78, 3), (136, .aload_n 0, 1), (137, .iconst 2, 1), (138, .newarray .boolean, 2), (140, .putfield 81, 3), (143, .aload_n 0, 1), (144, .getfield 47, 3), (147, .iconst 0, 1), (148, .ldc2_w 84, 3), (151, .lastore, 1), (152, .aload_n 0, 1), (153, .getfield 47, 3), (156, .iconst 1, 1), (157, .ldc2_w 86, 3), (160, .lastore, 1), (161, .aload_n 0, 1), (162, .getfield 47, 3), (165, .iconst 2, 1), (166, .ldc2_w 88, 3), (169, .lastore, 1), (170, .aload_n 0, 1), (171, .getfield 47, 3), (174, .iconst 3, 1), (175, .ldc2_w 90, 3), (178, .lastore, 1), (179, .aload_n 0, 1), (180, .getfield 47, 3), (183, .iconst 4, 1), (184, .ldc2_w 92, 3), (187, .lastore, 1), (188, .aload_n 0, 1), (189, .getfield 47, 3), (192, .iconst 5, 1), (193, .ldc2_w 94, 3), (196, .lastore, 1), (197, .aload_n 0, 1), (198, .getfield 47, 3), (201, .bipush 6, 2), (203, .ldc2_w 96, 3), (206, .lastore, 1), (207, .aload_n 0, 1), (208, .getfield 47, 3), (211, .bipush 7, 2), (213, .ldc2_w 98, 3), (216, .lastore, 1), (217, .aload_n 0, 1), (218, .getfield 47, 3), (221, .bipush 8, 2), (223, .ldc2_w 100, 3), (226, .lastore, 1), (227, .aload_n 0, 1), (228, .getfield 47, 3), (231, .bipush 9, 2), (233, .ldc2_w 102, 3), (236, .lastore, 1), (237, .aload_n 0, 1), (238, .getfield 47, 3), (241, .bipush 10, 2), (243, .ldc2_w 104, 3), (246, .lastore, 1), (247, .aload_n 0, 1), (248, .getfield 47, 3), (251, .bipush 11, 2), (253, .ldc2_w 106, 3), (256, .lastore, 1), (257, .aload_n 0, 1), (258, .getfield 47, 3), (261, .bipush 12, 2), (263, .ldc2_w 108, 3), (266, .lastore, 1), (267, .aload_n 0, 1), (268, .getfield 47, 3), (271, .bipush 13, 2), (273, .ldc2_w 110, 3), (276, .lastore, 1), (277, .aload_n 0, 1), (278, .getfield 47, 3), (281, .bipush 14, 2), (283, .ldc2_w 112, 3), (286, .lastore, 1), (287, .aload_n 0, 1), (288, .getfield 47, 3), (291, .bipush 15, 2), (293, .ldc2_w 114, 3), (296, .lastore, 1), (297, .aload_n 0, 1), (298, .getfield 47, 3), (301, .bipush 16, 2), (303, .ldc2_w 116, 3), (306, .lastore, 1), (307, .aload_n 0, 1), (308, .getfield 47, 3), (311, .bipush 17, 2), (313, .ldc2_w 118, 3), (316, .lastore, 1), (317, .aload_n 0, 1), (318, .getfield 47, 3), (321, .bipush 18, 2), (323, .ldc2_w 120, 3), (326, .lastore, 1), (327, .aload_n 0, 1), (328, .getfield 47, 3), (331, .bipush 19, 2), (333, .ldc2_w 122, 3), (336, .lastore, 1), (337, .aload_n 0, 1), (338, .getfield 47, 3), (341, .bipush 20, 2), (343, .ldc2_w 124, 3), (346, .lastore, 1), (347, .aload_n 0, 1), (348, .getfield 47, 3), (351, .bipush 21, 2), (353, .ldc2_w 126, 3), (356, .lastore, 1), (357, .aload_n 0, 1), (358, .getfield 47, 3), (361, .bipush 22, 2), (363, .ldc2_w 128, 3), (366, .lastore, 1), (367, .aload_n 0, 1), (368, .getfield 47, 3), (371, .bipush 23, 2), (373, .ldc2_w 130, 3), (376, .lastore, 1), (377, .aload_n 0, 1), (378, .getfield 47, 3), (381, .bipush 24, 2), (383, .ldc2_w 132, 3), (386, .lastore, 1), (387, .aload_n 0, 1), (388, .getfield 47, 3), (391, .bipush 25, 2), (393, .ldc2_w 134, 3), (396, .lastore, 1), (397, .aload_n 0, 1), (398, .getfield 47, 3), (401, .bipush 26, 2), (403, .ldc2_w 136, 3), (406, .lastore, 1), (407, .aload_n 0, 1), (408, .getfield 47, 3), (411, .bipush 27, 2), (413, .ldc2_w 138, 3), (416, .lastore, 1), (417, .aload_n 0, 1), (418, .getfield 47, 3), (421, .bipush 28, 2), (423, .ldc2_w 140, 3), (426, .lastore, 1), (427, .return_, 1)]
def mc_173 : List (Nat × Instr × Nat) := [(0, .aload_n 0, 1), (1, .getfield 21, 3), (4, .aload_n 0, 1), (5, .getfield 18, 3), (8, .if_icmp .ge 19, 3), (11, .aload_n 0, 1), (12, .getfield 14, 3), (15, .aload_n 0, 1), (16, .getfield 21, 3), (19, .baload, 1), (20, .sipush 255, 3), (23, .iand, 1), (24, .goto 4, 3), (27, .iconst (-1), 1), (28, .ireturn, 1)]
def mc_174 : List (Nat × Instr × Nat) := [(0, .iload_n 0, 1), (1, .bipush 97, 2), (3, .if_icmp .lt 13, 3), (6, .iload_n 0, 1), (7, .bipush 122, 2), (9, .if_icmp .gt 7, 3), (12, .iconst 1, 1), (13, .goto 4, 3), (16, .iconst 0, 1), (17, .ireturn, 1)]
def mc_175 : List (Nat × Instr × Nat) := [(0, .iload_n 0, 1), (1, .bipush 48, 2), (3, .if_icmp .lt 13, 3), (6, .iload_n 0, 1), (7, .bipush 57, 2), (9, .if_icmp .gt 7, 3), (12, .iconst 1, 1), (13, .goto 4, 3), (16, .iconst 0, 1), (17, .ireturn, 1)]
def mc_176 : List (Nat × Instr × Nat) := [(0, .aload_n 0, 1), (1, .invokevirtual 142, 3), (4, .bipush 32, 2), (6, .if_icmp .eq 12, 3), (9, .aload_n 0, 1), (10, .invokevirtual 142, 3), (13, .bipush 10, 2), (15, .if_icmp .ne 16, 3), (18, .aload_n 0, 1), (19, .dup, 1), (20, .getfield 21, 3), (23, .iconst 1, 1), (24, .iadd, 1), (25, .putfield 21, 3), (28, .goto (-28), 3), (31, .aload_n 0, 1), (32, .aload_n 0, 1), (33, .getfield 21, 3), (36, .putfield 146, 3), (39, .aload_n 0, 1), (40, .iconst 0, 1), (41, .putfield 149, 3), (44, .aload_n 0, 1), (45, .getfield 18, 3), (48, .aload_n 0, 1), (49, .getfield 24, 3), (52, .if_icmp .le 28, 3), (55, .aload_n 0, 1), (56, .getfield 21, 3), (59, .aload_n 0, 1), (60, .getfield 24, 3), (63, .if_icmp .lt 17, 3), (66, .aload_n 0, 1), (67, .aload_n 0, 1), (68, .getfield 24, 3), (71, .putfield 146, 3), (74, .aload_n 0, 1), (75, .iconst 4, 1), (76, .putfield 152, 3), (79, .return_, 1), (80, .aload_n 0, 1), (81, .invokevirtual 142, 3), (84, .istore_n 1, 1), (85, .iload_n 1, 1), (86, .ifCond .ge 9, 3), (89, .aload_n 0, 1), (90, .iconst 0, 1), (91, .putfield 152, 3), (94, .return_, 1), (95, .iload_n 1, 1), (96, .invokestatic 155, 3), (99, .ifCond .ne 65, 3), (102, .iload_n 1, 1), (103, .invokestatic 159, 3), (106, .ifCond .ne 58, 3), (109, .aload_n 0, 1), (110, .iload_n 1, 1), (111, .bipush 59, 2), (113, .if_icmp .eq 27, 3), (116, .iload_n 1, 1), (117, .bipush 40, 2), (119, .if_icmp .eq 21, 3), (122, .iload_n 1, 1), (123, .bipush 41, 2), (125, .if_icmp .eq 15, 3), (128, .iload_n 1, 1), (129, .bipush 60, 2), (131, .if_icmp .lt 13, 3), (134, .iload_n 1, 1), (135, .bipush 62, 2), (137, .if_icmp .gt 7, 3), (140, .iconst 3, 1), (141, .goto 4, 3), (144, .iconst 4, 1), (145, .putfield 152, 3), (148, .aload_n 0, 1), (149, .iload_n 1, 1), (150, .putfield 162, 3), (153, .aload_n 0, 1), (154, .dup, 1), (155, .getfield 21, 3), (158, .iconst 1, 1), (159, .iadd, 1), (160, .putfield 21, 3), (163, .return_, 1), (164, .iload_n 1, 1), (165, .invokestatic 155, 3), (168, .istore_n 2, 1), (169, .iconst 1, 1), (170, .istore_n 3, 1), (171, .aload_n 0, 1), (172, .lconst 0, 1), (173, .putfield 165, 3), (176, .aload_n 0, 1), (177, .iconst 0, 1), (178, .putfield 162, 3), (181, .aload_n 0, 1), (182, .invokevirtual 142, 3), (185, .invokestatic 155, 3), (188, .ifCond .ne 13, 3), (191, .aload_n 0, 1), (192, .invokevirtual 142, 3), (195, .invokestatic 159, 3), (198, .ifCond .eq 100, 3), (201, .iload_n 3, 1), (202, .ifCond .eq 18, 3), (205, .aload_n 0, 1), (206, .invokevirtual 142, 3), (209, .invokestatic 155, 3), (212, .iload_n 2, 1), (213, .if_icmp .ne 7, 3), (216, .iconst 1, 1), (217, .goto 4, 3), (220, .iconst 0, 1), (221, .istore_n 3, 1), (222, .aload_n 0, 1), (223, .getfield 149, 3), (226, .bipush 7, 2), (228, .if_icmp .ge 20, 3), (231, .aload_n 0, 1), (232, .aload_n 0, 1), (233, .getfield 165, 3), (236, .bipush 8, 2), (238, .lshl, 1), (239, .aload_n 0, 1), (240, .invokevirtual 142, 3), (243, .i2l, 1), (244, .lor, 1), (245, .putfield 165, 3), (248, .aload_n 0, 1), (249, .getfield 149, 3), (252, .iconst 2, 1), (253, .if_icmp .ge 22, 3), (256, .aload_n 0, 1), (257, .bipush 10, 2), (259, .aload_n 0, 1), (260, .getfield 162, 3), (263, .imul, 1), (264, .aload_n 0, 1), (265, .invokevirtual 142, 3), (268, .iadd, 1), (269, .bipush 48, 2), (271, .isub, 1), (272, .putfield 162, 3), (275, .aload_n 0, 1), (276, .dup, 1), (277, .getfield 149, 3), (280, .iconst 1, 1), (281, .iadd, 1), (282, .putfield 149, 3), (285, .aload_n 0, 1), (286, .dup, 1), (287, .getfield 21, 3), (290, .iconst 1, 1), (291, .iadd, 1), (292, .putfield 21, 3), (295, .goto (-114), 3), (298, .aload_n 0, 1), (299, .iload_n 3, 1), (300, .ifCond .eq 20, 3), (303, .aload_n 0, 1), (304, .getfield 149, 3), (307, .iload_n 2, 1), (308, .ifCond .eq 8, 3), (311, .bipush 7, 2), (313, .goto 4, 3), (316, .iconst 2, 1), (317, .if_icmp .le 7, 3), (320, .iconst 4, 1), (321, .goto 12, 3), (324, .iload_n 2, 1), (325, .ifCond .eq 7, 3), (328, .iconst 1, 1), (329, .goto 4, 3), (332, .iconst 2, 1), (333, .putfield 152, 3), (336, .return_, 1)]
def mc_177 : List (Nat × Instr × Nat) := [(0, .aload_n 0, 1), (1, .iload_n 1, 1), (2, .putfield 169, 3), (5, .aload_n 0, 1), (6, .aload_n 0, 1), (7, .getfield 146, 3), (10, .putfield 172, 3), (13, .iconst 0, 1), (14, .ireturn, 1)]
def mc_178 : List (Nat × Instr × Nat) := [(0, .aload_n 0, 1), (1, .getfield 152, 3), (4, .iconst 1, 1), (5, .if_icmp .ne 16, 3), (8, .aload_n 0, 1), (9, .getfield 165, 3), (12, .lload_n 1, 1), (13, .lcmp, 1), (14, .ifCond .ne 7, 3), (17, .iconst 1, 1), (18, .goto 4, 3), (21, .iconst 0, 1), (22, .ireturn, 1)]
def mc_179 : List (Nat × Instr × Nat) := [(0, .aload_n 0, 1), (1, .getfield 152, 3), (4, .iconst 3, 1), (5, .if_icmp .ne 15, 3), (8, .aload_n 0, 1), (9, .getfield 162, 3), (12, .iload_n 1, 1), (13, .if_icmp .ne 7, 3), (16, .iconst 1, 1), (17, .goto 4, 3), (20, .iconst 0, 1), (21, .ireturn, 1)]
def mc_180 : List (Nat × Instr × Nat) := [(0, .aload_n 0, 1), (1, .iload_n 1, 1), (2, .invokevirtual 175, 3), (5, .ifCond .ne 9, 3), (8, .aload_n 0, 1), (9, .iconst 1, 1), (10, .invokevirtual 178, 3), (13, .ireturn, 1), (14, .aload_n 0, 1), (15, .invokevirtual 181, 3), (18, .iconst 1, 1), (19, .ireturn, 1)]
def mc_181 : List (Nat × Instr × Nat) := [(0, .aload_n 0, 1), (1, .getfield 152, 3), (4, .iconst 1, 1), (5, .if_icmp .ne 7, 3), (8, .iconst 1, 1), (9, .goto 4, 3), (12, .iconst 0, 1), (13, .istore_n 1, 1), (14, .iconst 0, 1), (15, .istore_n 2, 1), (16, .iload_n 2, 1), (17, .bipush 29, 2), (19, .if_icmp .ge 33, 3), (22, .iload_n 1, 1), (23, .ifCond .eq 21, 3), (26, .aload_n 0, 1), (27, .getfield 165, 3), (30, .aload_n 0, 1), (31, .getfield 47, 3), (34, .iload_n 2, 1), (35, .laload, 1), (36, .lcmp, 1), (37, .ifCond .eq 7, 3), (40, .iconst 1, 1), (41, .goto 4, 3), (44, .iconst 0, 1), (45, .istore_n 1, 1), (46, .iinc 2 1, 3), (49, .goto (-33), 3), (52, .iload_n 1, 1), (53, .ireturn, 1)]
def mc_182 : List (Nat × Instr × Nat) := [(0, .aload_n 0, 1), (1, .getfield 152, 3), (4, .iconst 2, 1), (5, .if_icmp .eq 9, 3), (8, .aload_n 0, 1), (9, .iconst 1, 1), (10, .invokevirtual 178, 3), (13, .ireturn, 1), (14, .aload_n 0, 1), (15, .getfield 162, 3), (18, .iload_n 1, 1), (19, .iload_n 2, 1), (20, .invokestatic 184, 3), (23, .ifCond .ne 9, 3), (26, .aload_n 0, 1), (27, .iconst 2, 1), (28, .invokevirtual 178, 3), (31, .ireturn, 1), (32, .aload_n 0, 1), (33, .aload_n 0, 1), (34, .getfield 162, 3), (37, .putfield 188, 3), (40, .aload_n 0, 1), (41, .invokevirtual 181, 3), (44, .iconst 1, 1), (45, .ireturn, 1)]
def mc_183 : List (Nat × Instr × Nat) := [(0, .aload_n 0, 1), (1, .iload_n 2, 1), (2, .iload_n 3, 1), (3, .invokevirtual 191, 3), (6, .ifCond .ne 5, 3), (9, .iconst 0, 1), (10, .ireturn, 1), (11, .aload_n 0, 1), (12, .getfield 37, 3), (15, .iload_n 1, 1), (16, .aload_n 0, 1), (17, .getfield 188, 3), (20, .iastore, 1), (21, .iconst 1, 1), (22, .ireturn, 1)]
def mc_184 : List (Nat × Instr × Nat) := [(0, .iconst 0, 1), (1, .istore_n 3, 1), (2, .iload_n 3, 1), (3, .iload_n 2, 1), (4, .if_icmp .ge 27, 3), (7, .aload_n 0, 1), (8, .getfield 43, 3), (11, .iload_n 1, 1), (12, .iload_n 3, 1), (13, .iadd, 1), (14, .laload, 1), (15, .aload_n 0, 1), (16, .getfield 165, 3), (19, .lcmp, 1), (20, .ifCond .ne 5, 3), (23, .iload_n 3, 1), (24, .ireturn, 1), (25, .iinc 3 1, 3), (28, .goto (-26), 3), (31, .iconst (-1), 1), (32, .ireturn, 1)]
def mc_185 : List (Nat × Instr × Nat) := [(0, .aload_n 0, 1), (1, .invokevirtual 195, 3), (4, .ifCond .ne 9, 3), (7, .aload_n 0, 1), (8, .iconst 1, 1), (9, .invokevirtual 178, 3), (12, .ireturn, 1), (13, .aload_n 0, 1), (14, .bipush 27, 2), (16, .aload_n 0, 1), (17, .getfield 37, 3), (20, .iconst 0, 1), (21, .iaload, 1), (22, .invokevirtual 199, 3), (25, .ifCond .ge 48, 3), (28, .aload_n 0, 1), (29, .bipush 37, 2), (31, .aload_n 0, 1), (32, .getfield 37, 3), (35, .iconst 2, 1), (36, .iaload, 1), (37, .invokevirtual 199, 3), (40, .ifCond .ge 33, 3), (43, .aload_n 0, 1), (44, .bipush 42, 2), (46, .aload_n 0, 1), (47, .getfield 37, 3), (50, .iconst 3, 1), (51, .iaload, 1), (52, .invokevirtual 199, 3), (55, .ifCond .ge 18, 3), (58, .aload_n 0, 1), (59, .bipush 48, 2), (61, .aload_n 0, 1), (62, .getfield 37, 3), (65, .iconst 4, 1), (66, .iaload, 1), (67, .invokevirtual 199, 3), (70, .ifCond .lt 9, 3), (73, .aload_n 0, 1), (74, .iconst 3, 1), (75, .invokevirtual 178, 3), (78, .ireturn, 1), (79, .aload_n 0, 1), (80, .getfield 43, 3), (83, .iload_n 1, 1), (84, .aload_n 0, 1), (85, .getfield 165, 3), (88, .lastore, 1), (89, .aload_n 0, 1), (90, .invokevirtual 181, 3), (93, .iconst 1, 1), (94, .ireturn, 1)]
def mc_186 : List (Nat × Instr × Nat) := [(0, .aload_n 0, 1), (1, .invokevirtual 195, 3), (4, .ifCond .ne 9, 3), (7, .aload_n 0, 1), (8, .iconst 1, 1), (9, .invokevirtual 178, 3), (12, .ireturn, 1), (13, .aload_n 0, 1), (14, .aload_n 0, 1), (15, .iload_n 1, 1), (16, .iload_n 2, 1), (17, .invokevirtual 199, 3), (20, .putfield 188, 3), (23, .aload_n 0, 1), (24, .getfield 188, 3), (27, .ifCond .ge 11, 3), (30, .aload_n 0, 1), (31, .iconst 3, 1), (32, .invokevirtual 178, 3), (35, .ifCond .eq 7, 3), (38, .iconst 1, 1), (39, .goto 4, 3), (42, .iconst 0, 1), (43, .ireturn, 1)]
def mc_187 : List (Nat × Instr × Nat) := [(0, .aload_n 0, 1), (1, .iload_n 1, 1), (2, .iload_n 2, 1), (3, .invokevirtual 203, 3), (6, .ifCond .ne 5, 3), (9, .iconst 0, 1), (10, .ireturn, 1), (11, .aload_n 0, 1), (12, .invokevirtual 181, 3), (15, .iconst 1, 1), (16, .ireturn, 1)]
def mc_188 : List (Nat × Instr × Nat) := [(0, .aload_n 0, 1), (1, .ldc2_w 84, 3), (4, .invokevirtual 206, 3), (7, .ifCond .eq 54, 3), (10, .aload_n 0, 1), (11, .getfield 37, 3), (14, .iconst 0, 1), (15, .iaload, 1), (16, .bipush 10, 2), (18, .if_icmp .ne 9, 3), (21, .aload_n 0, 1), (22, .iconst 4, 1), (23, .invokevirtual 178, 3), (26, .ireturn, 1), (27, .aload_n 0, 1), (28, .invokevirtual 181, 3), (31, .aload_n 0, 1), (32, .bipush 27, 2), (34, .aload_n 0, 1), (35, .getfield 37, 3), (38, .iconst 0, 1), (39, .iaload, 1), (40, .iadd, 1), (41, .invokevirtual 210, 3), (44, .ifCond .ne 5, 3), (47, .iconst 0, 1), (48, .ireturn, 1), (49, .aload_n 0, 1), (50, .getfield 37, 3), (53, .iconst 0, 1), (54, .dup2, 1), (55, .iaload, 1), (56, .iconst 1, 1), (57, .iadd, 1), (58, .iastore, 1), (59, .iconst 1, 1), (60, .ireturn, 1), (61, .aload_n 0, 1), (62, .ldc2_w 86, 3), (65, .invokevirtual 206, 3), (68, .ifCond .eq 8, 3), (71, .aload_n 0, 1), (72, .invokevirtual 213, 3), (75, .ireturn, 1), (76, .aload_n 0, 1), (77, .ldc2_w 88, 3), (80, .invokevirtual 206, 3), (83, .ifCond .eq 53, 3), (86, .aload_n 0, 1), (87, .getfield 37, 3), (90, .iconst 2, 1), (91, .iaload, 1), (92, .iconst 5, 1), (93, .if_icmp .ne 9, 3), (96, .aload_n 0, 1), (97, .iconst 4, 1), (98, .invokevirtual 178, 3), (101, .ireturn, 1), (102, .aload_n 0, 1), (103, .invokevirtual 181, 3), (106, .aload_n 0, 1), (107, .bipush 37, 2), (109, .aload_n 0, 1), (110, .getfield 37, 3), (113, .iconst 2, 1), (114, .iaload, 1), (115, .iadd, 1), (116, .invokevirtual 210, 3), (119, .ifCond .ne 5, 3), (122, .iconst 0, 1), (123, .ireturn, 1), (124, .aload_n 0, 1), (125, .getfield 37, 3), (128, .iconst 2, 1), (129, .dup2, 1), (130, .iaload, 1), (131, .iconst 1, 1), (132, .iadd, 1), (133, .iastore, 1), (134, .iconst 1, 1), (135, .ireturn, 1), (136, .aload_n 0, 1), (137, .ldc2_w 90, 3), (140, .invokevirtual 206, 3), (143, .ifCond .ne 13, 3), (146, .aload_n 0, 1), (147, .ldc2_w 92, 3), (150, .invokevirtual 206, 3), (153, .ifCond .eq 15, 3), (156, .aload_n 0, 1), (157, .aload_n 0, 1), (158, .ldc2_w 92, 3), (161, .invokevirtual 206, 3), (164, .invokevirtual 216, 3), (167, .ireturn, 1), (168, .aload_n 0, 1), (169, .ldc2_w 94, 3), (172, .invokevirtual 206, 3), (175, .ifCond .eq 95, 3), (178, .aload_n 0, 1), (179, .getfield 37, 3), (182, .iconst 4, 1), (183, .iaload, 1), (184, .istore_n 1, 1), (185, .iload_n 1, 1), (186, .bipush 6, 2), (188, .if_icmp .ne 9, 3), (191, .aload_n 0, 1), (192, .iconst 4, 1), (193, .invokevirtual 178, 3), (196, .ireturn, 1), (197, .aload_n 0, 1), (198, .invokevirtual 181, 3), (201, .aload_n 0, 1), (202, .bipush 48, 2), (204, .iload_n 1, 1), (205, .iadd, 1), (206, .invokevirtual 210, 3), (209, .ifCond .eq 18, 3), (212, .aload_n 0, 1), (213, .bipush 27, 2), (215, .aload_n 0, 1), (216, .getfield 37, 3), (219, .iconst 0, 1), (220, .iaload, 1), (221, .invokevirtual 220, 3), (224, .ifCond .ne 5, 3), (227, .iconst 0, 1), (228, .ireturn, 1), (229, .aload_n 0, 1), (230, .getfield 37, 3), (233, .bipush 33, 2), (235, .iload_n 1, 1), (236, .iadd, 1), (237, .aload_n 0, 1), (238, .getfield 188, 3), (241, .iastore, 1), (242, .aload_n 0, 1), (243, .bipush 39, 2), (245, .iload_n 1, 1), (246, .iadd, 1), (247, .iconst 0, 1), (248, .bipush 9, 2), (250, .invokevirtual 223, 3), (253, .ifCond .ne 5, 3), (256, .iconst 0, 1), (257, .ireturn, 1), (258, .aload_n 0, 1), (259, .getfield 37, 3), (262, .iconst 4, 1), (263, .dup2, 1), (264, .iaload, 1), (265, .iconst 1, 1), (266, .iadd, 1), (267, .iastore, 1), (268, .iconst 1, 1), (269, .ireturn, 1), (270, .aload_n 0, 1), (271, .ldc2_w 96, 3), (274, .invokevirtual 206, 3), (277, .ifCond .eq 8, 3), (280, .aload_n 0, 1), (281, .invokevirtual 226, 3), (284, .ireturn, 1), (285, .aload_n 0, 1), (286, .ldc2_w 98, 3), (289, .invokevirtual 206, 3), (292, .ifCond .eq 103, 3), (295, .aload_n 0, 1), (296, .invokevirtual 181, 3), (299, .aload_n 0, 1), (300, .bipush 48, 2), (302, .aload_n 0, 1), (303, .getfield 37, 3), (306, .iconst 4, 1), (307, .iaload, 1), (308, .invokevirtual 203, 3), (311, .ifCond .ne 5, 3), (314, .iconst 0, 1), (315, .ireturn, 1), (316, .aload_n 0, 1), (317, .getfield 188, 3), (320, .istore_n 1, 1), (321, .aload_n 0, 1), (322, .getfield 37, 3), (325, .bipush 99, 2), (327, .iload_n 1, 1), (328, .iadd, 1), (329, .iaload, 1), (330, .ifCond .le 9, 3), (333, .aload_n 0, 1), (334, .iconst 3, 1), (335, .invokevirtual 178, 3), (338, .ireturn, 1), (339, .aload_n 0, 1), (340, .invokevirtual 181, 3), (343, .aload_n 0, 1), (344, .bipush 48, 2), (346, .aload_n 0, 1), (347, .getfield 37, 3), (350, .iconst 4, 1), (351, .iaload, 1), (352, .invokevirtual 203, 3), (355, .ifCond .ne 5, 3), (358, .iconst 0, 1), (359, .ireturn, 1), (360, .aload_n 0, 1), (361, .getfield 188, 3), (364, .iload_n 1, 1), (365, .if_icmp .ne 9, 3), (368, .aload_n 0, 1), (369, .iconst 3, 1), (370, .invokevirtual 178, 3), (373, .ireturn, 1), (374, .aload_n 0, 1), (375, .getfield 37, 3), (378, .bipush 99, 2), (380, .iload_n 1, 1), (381, .iadd, 1), (382, .aload_n 0, 1), (383, .getfield 188, 3), (386, .iconst 1, 1), (387, .iadd, 1), (388, .iastore, 1), (389, .aload_n 0, 1), (390, .invokevirtual 181, 3), (393, .iconst 1, 1), (394, .ireturn, 1), (395, .aload_n 0, 1), (396, .ldc2_w 100, 3), (399, .invokevirtual 206, 3), (402, .ifCond .ne 9, 3), (405, .aload_n 0, 1), (406, .iconst 1, 1), (407, .invokevirtual 178, 3), (410, .ireturn, 1), (411, .aload_n 0, 1), (412, .invokevirtual 181, 3), (415, .aload_n 0, 1), (416, .bipush 42, 2), (418, .aload_n 0, 1), (419, .getfield 37, 3), (422, .iconst 3, 1), (423, .iaload, 1), (424, .invokevirtual 220, 3), (427, .ifCond .ne 5, 3), (430, .iconst 0, 1), (431, .ireturn, 1), (432, .aload_n 0, 1), (433, .getfield 188, 3), (436, .istore_n 1, 1), (437, .aload_n 0, 1), (438, .bipush 27, 2), (440, .aload_n 0, 1), (441, .getfield 37, 3), (444, .iconst 0, 1), (445, .iaload, 1), (446, .invokevirtual 203, 3), (449, .ifCond .ne 5, 3), (452, .iconst 0, 1), (453, .ireturn, 1), (454, .aload_n 0, 1), (455, .getfield 37, 3), (458, .bipush 105, 2), (460, .aload_n 0, 1), (461, .getfield 188, 3), (464, .iadd, 1), (465, .iaload, 1), (466, .iload_n 1, 1), (467, .invokestatic 229, 3), (470, .ifCond .eq 9, 3), (473, .aload_n 0, 1), (474, .iconst 3, 1), (475, .invokevirtual 178, 3), (478, .ireturn, 1), (479, .aload_n 0, 1), (480, .getfield 37, 3), (483, .bipush 105, 2), (485, .aload_n 0, 1), (486, .getfield 188, 3), (489, .iadd, 1), (490, .dup2, 1), (491, .iaload, 1), (492, .iconst 1, 1), (493, .iload_n 1, 1), (494, .ishl, 1), (495, .ior, 1), (496, .iastore, 1), (497, .aload_n 0, 1), (498, .invokevirtual 181, 3), (501, .iconst 1, 1), (502, .ireturn, 1)]
def mc_189 : List (Nat × Instr × Nat) := [(0, .aload_n 0, 1), (1, .getfield 37, 3), (4, .iconst 1, 1), (5, .iaload, 1), (6, .bipush 16, 2), (8, .if_icmp .ne 9, 3), (11, .aload_n 0, 1), (12, .iconst 4, 1), (13, .invokevirtual 178, 3), (16, .ireturn, 1), (17, .aload_n 0, 1), (18, .invokevirtual 181, 3), (21, .aload_n 0, 1), (22, .bipush 27, 2), (24, .aload_n 0, 1), (25, .getfield 37, 3), (28, .iconst 0, 1), (29, .iaload, 1), (30, .invokevirtual 220, 3), (33, .ifCond .ne 5, 3), (36, .iconst 0, 1), (37, .ireturn, 1), (38, .aload_n 0, 1), (39, .getfield 188, 3), (42, .istore_n 1, 1), (43, .aload_n 0, 1), (44, .bipush 27, 2), (46, .aload_n 0, 1), (47, .getfield 37, 3), (50, .iconst 0, 1), (51, .iaload, 1), (52, .invokevirtual 203, 3), (55, .ifCond .ne 5, 3), (58, .iconst 0, 1), (59, .ireturn, 1), (60, .iload_n 1, 1), (61, .aload_n 0, 1), (62, .getfield 188, 3), (65, .if_icmp .eq 21, 3), (68, .aload_n 0, 1), (69, .getfield 37, 3), (72, .iconst 5, 1), (73, .iload_n 1, 1), (74, .iadd, 1), (75, .iaload, 1), (76, .aload_n 0, 1), (77, .getfield 188, 3), (80, .invokestatic 229, 3), (83, .ifCond .eq 9, 3), (86, .aload_n 0, 1), (87, .iconst 3, 1), (88, .invokevirtual 178, 3), (91, .ireturn, 1), (92, .aload_n 0, 1), (93, .getfield 37, 3), (96, .iconst 5, 1), (97, .iload_n 1, 1), (98, .iadd, 1), (99, .dup2, 1), (100, .iaload, 1), (101, .iconst 1, 1), (102, .aload_n 0, 1), (103, .getfield 188, 3), (106, .ishl, 1), (107, .ior, 1), (108, .iastore, 1), (109, .aload_n 0, 1), (110, .getfield 37, 3), (113, .iconst 5, 1), (114, .aload_n 0, 1), (115, .getfield 188, 3), (118, .iadd, 1), (119, .dup2, 1), (120, .iaload, 1), (121, .iconst 1, 1), (122, .iload_n 1, 1), (123, .ishl, 1), (124, .ior, 1), (125, .iastore, 1), (126, .aload_n 0, 1), (127, .getfield 37, 3), (130, .iconst 1, 1), (131, .dup2, 1), (132, .iaload, 1), (133, .iconst 1, 1), (134, .iadd, 1), (135, .iastore, 1), (136, .aload_n 0, 1), (137, .invokevirtual 181, 3), (140, .iconst 1, 1), (141, .ireturn, 1)]
def mc_190 : List (Nat × Instr × Nat) := [(0, .aload_n 0, 1), (1, .getfield 37, 3), (4, .iconst 3, 1), (5, .iaload, 1), (6, .istore_n 2, 1), (7, .iload_n 2, 1), (8, .bipush 6, 2), (10, .if_icmp .ne 9, 3), (13, .aload_n 0, 1), (14, .iconst 4, 1), (15, .invokevirtual 178, 3), (18, .ireturn, 1), (19, .aload_n 0, 1), (20, .invokevirtual 181, 3), (23, .aload_n 0, 1), (24, .bipush 42, 2), (26, .iload_n 2, 1), (27, .iadd, 1), (28, .invokevirtual 210, 3), (31, .ifCond .eq 17, 3), (34, .aload_n 0, 1), (35, .bipush 15, 2), (37, .iload_n 2, 1), (38, .iadd, 1), (39, .iconst 1, 1), (40, .bipush 30, 2), (42, .invokevirtual 223, 3), (45, .ifCond .ne 5, 3), (48, .iconst 0, 1), (49, .ireturn, 1), (50, .aload_n 0, 1), (51, .getfield 37, 3), (54, .bipush 21, 2), (56, .iload_n 2, 1), (57, .iadd, 1), (58, .iconst 0, 1), (59, .iastore, 1), (60, .aload_n 0, 1), (61, .getfield 37, 3), (64, .bipush 27, 2), (66, .iload_n 2, 1), (67, .iadd, 1), (68, .iconst 0, 1), (69, .iastore, 1), (70, .iload_n 1, 1), (71, .ifCond .eq 72, 3), (74, .aload_n 0, 1), (75, .bipush 42, 2), (77, .aload_n 0, 1), (78, .getfield 37, 3), (81, .iconst 3, 1), (82, .iaload, 1), (83, .invokevirtual 203, 3), (86, .ifCond .ne 5, 3), (89, .iconst 0, 1), (90, .ireturn, 1), (91, .aload_n 0, 1), (92, .getfield 37, 3), (95, .bipush 27, 2), (97, .aload_n 0, 1), (98, .getfield 188, 3), (101, .iadd, 1), (102, .iaload, 1), (103, .ifCond .le 9, 3), (106, .aload_n 0, 1), (107, .iconst 3, 1), (108, .invokevirtual 178, 3), (111, .ireturn, 1), (112, .aload_n 0, 1), (113, .getfield 37, 3), (116, .bipush 27, 2), (118, .iload_n 2, 1), (119, .iadd, 1), (120, .aload_n 0, 1), (121, .getfield 188, 3), (124, .iconst 1, 1), (125, .iadd, 1), (126, .iastore, 1), (127, .aload_n 0, 1), (128, .invokevirtual 181, 3), (131, .aload_n 0, 1), (132, .getfield 37, 3), (135, .iconst 3, 1), (136, .dup2, 1), (137, .iaload, 1), (138, .iconst 1, 1), (139, .iadd, 1), (140, .iastore, 1), (141, .iconst 1, 1), (142, .ireturn, 1), (143, .aload_n 0, 1), (144, .getfield 37, 3), (147, .bipush 21, 2), (149, .iload_n 2, 1), (150, .iadd, 1), (151, .iaload, 1), (152, .ifCond .eq 12, 3), (155, .aload_n 0, 1), (156, .bipush 59, 2), (158, .invokevirtual 175, 3), (161, .ifCond .ne 70, 3), (164, .aload_n 0, 1), (165, .bipush 37, 2), (167, .aload_n 0, 1), (168, .getfield 37, 3), (171, .iconst 2, 1), (172, .iaload, 1), (173, .invokevirtual 203, 3), (176, .ifCond .ne 5, 3), (179, .iconst 0, 1), (180, .ireturn, 1), (181, .aload_n 0, 1), (182, .getfield 37, 3), (185, .bipush 21, 2), (187, .iload_n 2, 1), (188, .iadd, 1), (189, .iaload, 1), (190, .aload_n 0, 1), (191, .getfield 188, 3), (194, .invokestatic 229, 3), (197, .ifCond .eq 9, 3), (200, .aload_n 0, 1), (201, .iconst 3, 1), (202, .invokevirtual 178, 3), (205, .ireturn, 1), (206, .aload_n 0, 1), (207, .getfield 37, 3), (210, .bipush 21, 2), (212, .iload_n 2, 1), (213, .iadd, 1), (214, .dup2, 1), (215, .iaload, 1), (216, .iconst 1, 1), (217, .aload_n 0, 1), (218, .getfield 188, 3), (221, .ishl, 1), (222, .ior, 1), (223, .iastore, 1), (224, .aload_n 0, 1), (225, .invokevirtual 181, 3), (228, .goto (-85), 3), (231, .aload_n 0, 1), (232, .getfield 37, 3), (235, .iconst 3, 1), (236, .dup2, 1), (237, .iaload, 1), (238, .iconst 1, 1), (239, .iadd, 1), (240, .iastore, 1), (241, .iconst 1, 1), (242, .ireturn, 1)]
def mc_191 : List (Nat × Instr × Nat) := [(0, .aload_n 0, 1), (1, .invokevirtual 181, 3), (4, .aload_n 0, 1), (5, .bipush 48, 2), (7, .aload_n 0, 1), (8, .getfield 37, 3), (11, .iconst 4, 1), (12, .iaload, 1), (13, .invokevirtual 203, 3), (16, .ifCond .ne 5, 3), (19, .iconst 0, 1), (20, .ireturn, 1), (21, .aload_n 0, 1), (22, .getfield 188, 3), (25, .istore_n 1, 1), (26, .aload_n 0, 1), (27, .getfield 37, 3), (30, .bipush 45, 2), (32, .iload_n 1, 1), (33, .iadd, 1), (34, .iaload, 1), (35, .ifCond .le 9, 3), (38, .aload_n 0, 1), (39, .iconst 3, 1), (40, .invokevirtual 178, 3), (43, .ireturn, 1), (44, .aload_n 0, 1), (45, .invokevirtual 181, 3), (48, .iconst 0, 1), (49, .istore_n 2, 1), (50, .iload_n 2, 1), (51, .ifCond .eq 12, 3), (54, .aload_n 0, 1), (55, .bipush 59, 2), (57, .invokevirtual 175, 3), (60, .ifCond .ne 60, 3), (63, .aload_n 0, 1), (64, .bipush 27, 2), (66, .aload_n 0, 1), (67, .getfield 37, 3), (70, .iconst 0, 1), (71, .iaload, 1), (72, .invokevirtual 203, 3), (75, .ifCond .ne 5, 3), (78, .iconst 0, 1), (79, .ireturn, 1), (80, .iload_n 2, 1), (81, .bipush 8, 2), (83, .if_icmp .ne 9, 3), (86, .aload_n 0, 1), (87, .iconst 4, 1), (88, .invokevirtual 178, 3), (91, .ireturn, 1), (92, .aload_n 0, 1), (93, .getfield 37, 3), (96, .bipush 51, 2), (98, .bipush 8, 2), (100, .iload_n 1, 1), (101, .imul, 1), (102, .iadd, 1), (103, .iload_n 2, 1), (104, .iadd, 1), (105, .aload_n 0, 1), (106, .getfield 188, 3), (109, .iastore, 1), (110, .iinc 2 1, 3), (113, .aload_n 0, 1), (114, .invokevirtual 181, 3), (117, .goto (-67), 3), (120, .aload_n 0, 1), (121, .getfield 37, 3), (124, .bipush 45, 2), (126, .iload_n 1, 1), (127, .iadd, 1), (128, .iload_n 2, 1), (129, .iastore, 1), (130, .iconst 1, 1), (131, .ireturn, 1)]
def mc_192 : List (Nat × Instr × Nat) := [(0, .aload_n 0, 1), (1, .iconst 0, 1), (2, .putfield 1, 3), (5, .aload_n 0, 1), (6, .sipush 900, 3), (9, .invokevirtual 232, 3), (12, .aload_n 0, 1), (13, .iconst 0, 1), (14, .putfield 169, 3), (17, .aload_n 0, 1), (18, .iconst 0, 1), (19, .putfield 235, 3), (22, .iconst 0, 1), (23, .istore_n 1, 1), (24, .iload_n 1, 1), (25, .bipush 115, 2), (27, .if_icmp .ge 16, 3), (30, .aload_n 0, 1), (31, .getfield 37, 3), (34, .iload_n 1, 1), (35, .iconst 0, 1), (36, .iastore, 1), (37, .iinc 1 1, 3), (40, .goto (-16), 3), (43, .aload_n 0, 1), (44, .invokevirtual 181, 3), (47, .aload_n 0, 1), (48, .getfield 152, 3), (51, .ifCond .eq 39, 3), (54, .aload_n 0, 1), (55, .invokevirtual 238, 3), (58, .ifCond .eq 12, 3), (61, .aload_n 0, 1), (62, .bipush 59, 2), (64, .invokevirtual 241, 3), (67, .ifCond .ne 10, 3), (70, .iconst (-1), 1), (71, .aload_n 0, 1), (72, .getfield 172, 3), (75, .isub, 1), (76, .ireturn, 1), (77, .aload_n 0, 1), (78, .dup, 1), (79, .getfield 235, 3), (82, .iconst 1, 1), (83, .iadd, 1), (84, .putfield 235, 3), (87, .goto (-40), 3), (90, .iconst 0, 1), (91, .istore_n 1, 1), (92, .iload_n 1, 1), (93, .sipush 411, 3), (96, .if_icmp .ge 31, 3), (99, .aload_n 0, 1), (100, .getfield 33, 3), (103, .iload_n 1, 1), (104, .iload_n 1, 1), (105, .bipush 115, 2), (107, .if_icmp .ge 12, 3), (110, .aload_n 0, 1), (111, .getfield 37, 3), (114, .iload_n 1, 1), (115, .iaload, 1), (116, .goto 4, 3), (119, .iconst 0, 1), (120, .iastore, 1), (121, .iinc 1 1, 3), (124, .goto (-32), 3), (127, .iconst 0, 1), (128, .istore_n 1, 1), (129, .iload_n 1, 1), (130, .bipush 27, 2), (132, .if_icmp .ge 24, 3), (135, .aload_n 0, 1), (136, .getfield 43, 3), (139, .iload_n 1, 1), (140, .aload_n 0, 1), (141, .getfield 43, 3), (144, .bipush 27, 2), (146, .iload_n 1, 1), (147, .iadd, 1), (148, .laload, 1), (149, .lastore, 1), (150, .iinc 1 1, 3), (153, .goto (-24), 3), (156, .iconst 0, 1), (157, .istore_n 1, 1), (158, .iload_n 1, 1), (159, .bipush 10, 2), (161, .if_icmp .ge 28, 3), (164, .aload_n 0, 1), (165, .getfield 33, 3), (168, .sipush 138, 3), (171, .iload_n 1, 1), (172, .iadd, 1), (173, .aload_n 0, 1), (174, .getfield 33, 3), (177, .bipush 105, 2), (179, .iload_n 1, 1), (180, .iadd, 1), (181, .iaload, 1), (182, .iastore, 1), (183, .iinc 1 1, 3), (186, .goto (-28), 3), (189, .iconst 0, 1), (190, .istore_n 1, 1), (191, .iload_n 1, 1), (192, .aload_n 0, 1), (193, .getfield 33, 3), (196, .iconst 4, 1), (197, .iaload, 1), (198, .if_icmp .ge 27, 3), (201, .aload_n 0, 1), (202, .getfield 33, 3), (205, .bipush 120, 2), (207, .iload_n 1, 1), (208, .iadd, 1), (209, .aload_n 0, 1), (210, .getfield 33, 3), (213, .bipush 33, 2), (215, .iload_n 1, 1), (216, .iadd, 1), (217, .iaload, 1), (218, .iastore, 1), (219, .iinc 1 1, 3), (222, .goto (-31), 3), (225, .iconst 0, 1), (226, .istore_n 1, 1), (227, .iload_n 1, 1), (228, .aload_n 0, 1), (229, .getfield 33, 3), (232, .iconst 4, 1), (233, .iaload, 1), (234, .if_icmp .ge 14, 3), (237, .aload_n 0, 1), (238, .iload_n 1, 1), (239, .invokevirtual 244, 3), (242, .iinc 1 1, 3), (245, .goto (-18), 3), (248, .aload_n 0, 1), (249, .iconst 0, 1), (250, .putfield 247, 3), (253, .aload_n 0, 1), (254, .getfield 235, 3), (257, .ireturn, 1)]
def mc_193 : List (Nat × Instr × Nat) := [(0, .aload_n 0, 1), (1, .iconst 0, 1), (2, .putfield 1, 3), (5, .aload_n 0, 1), (6, .getfield 169, 3), (9, .ireturn, 1)]
def mc_194 : List (Nat × Instr × Nat) := [(0, .iload_n 1, 1), (1, .iconst 0, 1), (2, .aload_n 0, 1), (3, .getfield 33, 3), (6, .iconst 0, 1), (7, .iaload, 1), (8, .iconst 1, 1), (9, .isub, 1), (10, .invokestatic 184, 3), (13, .ireturn, 1)]
def mc_195 : List (Nat × Instr × Nat) := [(0, .iload_n 1, 1), (1, .iconst 0, 1), (2, .aload_n 0, 1), (3, .getfield 33, 3), (6, .iconst 2, 1), (7, .iaload, 1), (8, .iconst 1, 1), (9, .isub, 1), (10, .invokestatic 184, 3), (13, .ireturn, 1)]
def mc_196 : List (Nat × Instr × Nat) := [(0, .iload_n 1, 1), (1, .iconst 0, 1), (2, .aload_n 0, 1), (3, .getfield 33, 3), (6, .iconst 3, 1), (7, .iaload, 1), (8, .iconst 1, 1), (9, .isub, 1), (10, .invokestatic 184, 3), (13, .ireturn, 1)]
def mc_197 : List (Nat × Instr × Nat) := [(0, .iload_n 1, 1), (1, .iconst 0, 1), (2, .aload_n 0, 1), (3, .getfield 33, 3), (6, .iconst 4, 1), (7, .iaload, 1), (8, .iconst 1, 1), (9, .isub, 1), (10, .invokestatic 184, 3), (13, .ireturn, 1)]
def mc_198 : List (Nat × Instr × Nat) := [(0, .bipush 6, 2), (2, .iload_n 0, 1), (3, .imul, 1), (4, .iload_n 1, 1), (5, .iadd, 1), (6, .ireturn, 1)]
def mc_199 : List (Nat × Instr × Nat) := [(0, .aload_n 0, 1), (1, .getfield 33, 3), (4, .sipush 148, 3), (7, .iload_n 1, 1), (8, .iload_n 2, 1), (9, .invokestatic 250, 3), (12, .iadd, 1), (13, .iload_n 3, 1), (14, .iastore, 1), (15, .aload_n 0, 1), (16, .getfield 33, 3), (19, .sipush 184, 3), (22, .iload_n 1, 1), (23, .iload_n 2, 1), (24, .invokestatic 250, 3), (27, .iadd, 1), (28, .aload_n 0, 1), (29, .getfield 33, 3), (32, .bipush 115, 2), (34, .iaload, 1), (35, .iastore, 1), (36, .return_, 1)]
def mc_200 : List (Nat × Instr × Nat) := [(0, .aload_n 0, 1), (1, .getfield 33, 3), (4, .bipush 119, 2), (6, .iaload, 1), (7, .iload_n 1, 1), (8, .invokestatic 229, 3), (11, .ifCond .eq 4, 3), (14, .return_, 1), (15, .aload_n 0, 1), (16, .getfield 33, 3), (19, .bipush 15, 2), (21, .iload_n 2, 1), (22, .iadd, 1), (23, .iaload, 1), (24, .aload_n 0, 1), (25, .getfield 33, 3), (28, .sipush 148, 3), (31, .iload_n 1, 1), (32, .iload_n 2, 1), (33, .invokestatic 250, 3), (36, .iadd, 1), (37, .iaload, 1), (38, .aload_n 0, 1), (39, .getfield 33, 3), (42, .bipush 39, 2), (44, .iload_n 1, 1), (45, .iadd, 1), (46, .iaload, 1), (47, .iadd, 1), (48, .invokestatic 253, 3), (51, .istore_n 3, 1), (52, .aload_n 0, 1), (53, .iload_n 1, 1), (54, .iload_n 2, 1), (55, .iload_n 3, 1), (56, .invokevirtual 256, 3), (59, .aload_n 0, 1), (60, .getfield 33, 3), (63, .bipush 99, 2), (65, .iload_n 1, 1), (66, .iadd, 1), (67, .iaload, 1), (68, .iconst 1, 1), (69, .isub, 1), (70, .istore 4, 2), (72, .iload 4, 2), (74, .ifCond .lt 29, 3), (77, .aload_n 0, 1), (78, .iload 4, 2), (80, .iload_n 2, 1), (81, .iload_n 3, 1), (82, .aload_n 0, 1), (83, .getfield 33, 3), (86, .sipush 148, 3), (89, .iload 4, 2), (91, .iload_n 2, 1), (92, .invokestatic 250, 3), (95, .iadd, 1), (96, .iaload, 1), (97, .invokestatic 260, 3), (100, .invokevirtual 256, 3), (103, .return_, 1)]
def mc_201 : List (Nat × Instr × Nat) := [(0, .iconst 0, 1), (1, .istore_n 2, 1), (2, .iload_n 2, 1), (3, .aload_n 0, 1), (4, .getfield 33, 3), (7, .iconst 3, 1), (8, .iaload, 1), (9, .if_icmp .ge 40, 3), (12, .aload_n 0, 1), (13, .getfield 33, 3), (16, .sipush 138, 3), (19, .aload_n 0, 1), (20, .getfield 33, 3), (23, .bipush 120, 2), (25, .iload_n 1, 1), (26, .iadd, 1), (27, .iaload, 1), (28, .iadd, 1), (29, .iaload, 1), (30, .iload_n 2, 1), (31, .invokestatic 229, 3), (34, .ifCond .eq 9, 3), (37, .aload_n 0, 1), (38, .iload_n 1, 1), (39, .iload_n 2, 1), (40, .invokevirtual 263, 3), (43, .iinc 2 1, 3), (46, .goto (-44), 3), (49, .return_, 1)]
def mc_202 : List (Nat × Instr × Nat) := [(0, .aload_n 0, 1), (1, .getfield 33, 3), (4, .sipush 148, 3), (7, .iload_n 1, 1), (8, .iload_n 2, 1), (9, .invokestatic 250, 3), (12, .iadd, 1), (13, .iaload, 1), (14, .istore_n 3, 1), (15, .iload_n 3, 1), (16, .aload_n 0, 1), (17, .getfield 33, 3), (20, .bipush 15, 2), (22, .iload_n 2, 1), (23, .iadd, 1), (24, .iaload, 1), (25, .if_icmp .ne 7, 3), (28, .iconst 2, 1), (29, .goto 23, 3), (32, .iconst 2, 1), (33, .iload_n 3, 1), (34, .imul, 1), (35, .aload_n 0, 1), (36, .getfield 33, 3), (39, .bipush 15, 2), (41, .iload_n 2, 1), (42, .iadd, 1), (43, .iaload, 1), (44, .if_icmp .lt 7, 3), (47, .iconst 1, 1), (48, .goto 4, 3), (51, .iconst 0, 1), (52, .ireturn, 1)]
def mc_203 : List (Nat × Instr × Nat) := [(0, .iconst 0, 1), (1, .istore_n 3, 1), (2, .iload_n 3, 1), (3, .aload_n 0, 1), (4, .getfield 33, 3), (7, .iconst 3, 1), (8, .iaload, 1), (9, .if_icmp .ge 36, 3), (12, .aload_n 0, 1), (13, .getfield 33, 3), (16, .bipush 27, 2), (18, .iload_n 3, 1), (19, .iadd, 1), (20, .iaload, 1), (21, .iload_n 2, 1), (22, .iconst 1, 1), (23, .iadd, 1), (24, .if_icmp .ne 15, 3), (27, .aload_n 0, 1), (28, .iload_n 1, 1), (29, .iload_n 3, 1), (30, .invokevirtual 267, 3), (33, .iconst 2, 1), (34, .if_icmp .ne 5, 3), (37, .iconst 1, 1), (38, .ireturn, 1), (39, .iinc 3 1, 3), (42, .goto (-40), 3), (45, .iconst 0, 1), (46, .ireturn, 1)]
def mc_204 : List (Nat × Instr × Nat) := [(0, .aload_n 0, 1), (1, .iload_n 1, 1), (2, .iload_n 2, 1), (3, .invokevirtual 267, 3), (6, .istore_n 3, 1), (7, .aload_n 0, 1), (8, .getfield 33, 3), (11, .bipush 27, 2), (13, .iload_n 2, 1), (14, .iadd, 1), (15, .iaload, 1), (16, .ifCond .ne 38, 3), (19, .iload_n 3, 1), (20, .iconst 2, 1), (21, .if_icmp .eq 20, 3), (24, .iload_n 3, 1), (25, .iconst 1, 1), (26, .if_icmp .ne 28, 3), (29, .aload_n 0, 1), (30, .getfield 33, 3), (33, .bipush 115, 2), (35, .iaload, 1), (36, .iconst 2, 1), (37, .irem, 1), (38, .ifCond .ne 16, 3), (41, .aload_n 0, 1), (42, .iload_n 1, 1), (43, .iload_n 2, 1), (44, .invokevirtual 270, 3), (47, .ifCond .ne 7, 3), (50, .iconst 1, 1), (51, .goto 4, 3), (54, .iconst 0, 1), (55, .ireturn, 1)]
def mc_205 : List (Nat × Instr × Nat) := [(0, .iconst 0, 1), (1, .istore_n 2, 1), (2, .iconst 0, 1), (3, .istore_n 3, 1), (4, .iload_n 3, 1), (5, .aload_n 0, 1), (6, .getfield 33, 3), (9, .iconst 3, 1), (10, .iaload, 1), (11, .if_icmp .ge 28, 3), (14, .iload_n 2, 1), (15, .aload_n 0, 1), (16, .iload_n 1, 1), (17, .iload_n 3, 1), (18, .invokevirtual 273, 3), (21, .ifCond .eq 9, 3), (24, .iconst 1, 1), (25, .iload_n 3, 1), (26, .ishl, 1), (27, .goto 4, 3), (30, .iconst 0, 1), (31, .ior, 1), (32, .istore_n 2, 1), (33, .iinc 3 1, 3), (36, .goto (-32), 3), (39, .iload_n 2, 1), (40, .ireturn, 1)]
def mc_206 : List (Nat × Instr × Nat) := [(0, .iconst 0, 1), (1, .istore_n 2, 1), (2, .iconst 0, 1), (3, .istore_n 3, 1), (4, .iload_n 3, 1), (5, .aload_n 0, 1), (6, .getfield 33, 3), (9, .iconst 3, 1), (10, .iaload, 1), (11, .if_icmp .ge 33, 3), (14, .iload_n 2, 1), (15, .iload_n 1, 1), (16, .iload_n 3, 1), (17, .invokestatic 229, 3), (20, .ifCond .eq 15, 3), (23, .aload_n 0, 1), (24, .getfield 33, 3), (27, .bipush 21, 2), (29, .iload_n 3, 1), (30, .iadd, 1), (31, .iaload, 1), (32, .goto 4, 3), (35, .iconst 0, 1), (36, .ior, 1), (37, .istore_n 2, 1), (38, .iinc 3 1, 3), (41, .goto (-37), 3), (44, .iload_n 2, 1), (45, .ireturn, 1)]
def mc_207 : List (Nat × Instr × Nat) := [(0, .aload_n 0, 1), (1, .aload_n 0, 1), (2, .iload_n 1, 1), (3, .invokevirtual 276, 3), (6, .invokevirtual 280, 3), (9, .ireturn, 1)]
def mc_208 : List (Nat × Instr × Nat) := [(0, .iconst 0, 1), (1, .istore_n 2, 1), (2, .iconst 0, 1), (3, .istore_n 3, 1), (4, .iload_n 3, 1), (5, .aload_n 0, 1), (6, .getfield 33, 3), (9, .iconst 3, 1), (10, .iaload, 1), (11, .if_icmp .ge 26, 3), (14, .iload_n 2, 1), (15, .aload_n 0, 1), (16, .getfield 33, 3), (19, .sipush 148, 3), (22, .iload_n 1, 1), (23, .iload_n 3, 1), (24, .invokestatic 250, 3), (27, .iadd, 1), (28, .iaload, 1), (29, .iadd, 1), (30, .istore_n 2, 1), (31, .iinc 3 1, 3), (34, .goto (-30), 3), (37, .iload_n 2, 1), (38, .ireturn, 1)]
def mc_209 : List (Nat × Instr × Nat) := [(0, .aload_n 0, 1), (1, .iconst 0, 1), (2, .putfield 1, 3), (5, .aload_n 0, 1), (6, .iload_n 1, 1), (7, .invokevirtual 283, 3), (10, .ifCond .ne 5, 3), (13, .iconst (-1), 1), (14, .ireturn, 1), (15, .iconst 0, 1), (16, .istore_n 3, 1), (17, .iconst 0, 1), (18, .istore 4, 2), (20, .iload 4, 2), (22, .aload_n 0, 1), (23, .getfield 33, 3), (26, .iconst 0, 1), (27, .iaload, 1), (28, .if_icmp .ge 38, 3), (31, .iload_n 3, 1), (32, .aload_n 0, 1), (33, .getfield 33, 3), (36, .sipush 138, 3), (39, .iload 4, 2), (41, .iadd, 1), (42, .iaload, 1), (43, .iload_n 1, 1), (44, .invokestatic 229, 3), (47, .ifCond .eq 10, 3), (50, .iconst 1, 1), (51, .iload 4, 2), (53, .ishl, 1), (54, .goto 4, 3), (57, .iconst 0, 1), (58, .ior, 1), (59, .istore_n 3, 1), (60, .iinc 4 1, 3), (63, .goto (-43), 3), (66, .iload_n 2, 1), (67, .tableswitch 63 0 3 #[29, 39, 49, 61], 29), (96, .aload_n 0, 1), (97, .getfield 33, 3), (100, .bipush 15, 2), (102, .iload_n 1, 1), (103, .iadd, 1), (104, .iaload, 1), (105, .ireturn, 1), (106, .aload_n 0, 1), (107, .getfield 33, 3), (110, .bipush 21, 2), (112, .iload_n 1, 1), (113, .iadd, 1), (114, .iaload, 1), (115, .ireturn, 1), (116, .aload_n 0, 1), (117, .getfield 33, 3), (120, .bipush 27, 2), (122, .iload_n 1, 1), (123, .iadd, 1), (124, .iaload, 1), (125, .iconst 1, 1), (126, .isub, 1), (127, .ireturn, 1), (128, .iload_n 3, 1), (129, .ireturn, 1), (130, .iconst (-1), 1), (131, .ireturn, 1)]
def mc_210 : List (Nat × Instr × Nat) := [(0, .aload_n 0, 1), (1, .aload_n 0, 1), (2, .iload_n 1, 1), (3, .invokevirtual 286, 3), (6, .ifCond .eq 12, 3), (9, .iload_n 2, 1), (10, .iconst 0, 1), (11, .iconst 5, 1), (12, .invokestatic 184, 3), (15, .ifCond .ne 7, 3), (18, .iconst 1, 1), (19, .goto 4, 3), (22, .iconst 0, 1), (23, .invokevirtual 289, 3), (26, .ifCond .eq 5, 3), (29, .iconst 0, 1), (30, .ireturn, 1), (31, .iload_n 2, 1), (32, .tableswitch 92 0 4 #[36, 46, 56, 68, 80], 36), (68, .aload_n 0, 1), (69, .getfield 33, 3), (72, .bipush 120, 2), (74, .iload_n 1, 1), (75, .iadd, 1), (76, .iaload, 1), (77, .ireturn, 1), (78, .aload_n 0, 1), (79, .getfield 33, 3), (82, .bipush 39, 2), (84, .iload_n 1, 1), (85, .iadd, 1), (86, .iaload, 1), (87, .ireturn, 1), (88, .aload_n 0, 1), (89, .getfield 33, 3), (92, .bipush 119, 2), (94, .iaload, 1), (95, .iload_n 1, 1), (96, .ishr, 1), (97, .iconst 1, 1), (98, .iand, 1), (99, .ireturn, 1), (100, .aload_n 0, 1), (101, .getfield 33, 3), (104, .bipush 99, 2), (106, .iload_n 1, 1), (107, .iadd, 1), (108, .iaload, 1), (109, .iconst 1, 1), (110, .isub, 1), (111, .ireturn, 1), (112, .aload_n 0, 1), (113, .getfield 33, 3), (116, .bipush 118, 2), (118, .iaload, 1), (119, .iload_n 1, 1), (120, .ishr, 1), (121, .iconst 1, 1), (122, .iand, 1), (123, .ireturn, 1), (124, .aload_n 0, 1), (125, .getfield 33, 3), (128, .bipush 126, 2), (130, .iload_n 1, 1), (131, .iadd, 1), (132, .iaload, 1), (133, .ireturn, 1)]
def mc_211 : List (Nat × Instr × Nat) := [(0, .aload_n 0, 1), (1, .iconst 0, 1), (2, .putfield 1, 3), (5, .aload_n 0, 1), (6, .iload_n 1, 1), (7, .invokevirtual 292, 3), (10, .ifCond .ne 5, 3), (13, .iconst (-1), 1), (14, .ireturn, 1), (15, .iconst 0, 1), (16, .istore_n 3, 1), (17, .iconst 0, 1), (18, .istore 4, 2), (20, .iload 4, 2), (22, .aload_n 0, 1), (23, .getfield 33, 3), (26, .iconst 4, 1), (27, .iaload, 1), (28, .if_icmp .ge 34, 3), (31, .iload_n 3, 1), (32, .aload_n 0, 1), (33, .getfield 33, 3), (36, .bipush 120, 2), (38, .iload 4, 2), (40, .iadd, 1), (41, .iaload, 1), (42, .iload_n 1, 1), (43, .if_icmp .ne 10, 3), (46, .iconst 1, 1), (47, .iload 4, 2), (49, .ishl, 1), (50, .goto 4, 3), (53, .iconst 0, 1), (54, .ior, 1), (55, .istore_n 3, 1), (56, .iinc 4 1, 3), (59, .goto (-39), 3), (62, .iload_n 2, 1), (63, .ifCond .ne 14, 3), (66, .aload_n 0, 1), (67, .getfield 33, 3), (70, .iconst 5, 1), (71, .iload_n 1, 1), (72, .iadd, 1), (73, .iaload, 1), (74, .goto 31, 3), (77, .iload_n 2, 1), (78, .iconst 1, 1), (79, .if_icmp .ne 16, 3), (82, .aload_n 0, 1), (83, .getfield 33, 3), (86, .sipush 138, 3), (89, .iload_n 1, 1), (90, .iadd, 1), (91, .iaload, 1), (92, .goto 13, 3), (95, .iload_n 2, 1), (96, .iconst 2, 1), (97, .if_icmp .ne 7, 3), (100, .iload_n 3, 1), (101, .goto 4, 3), (104, .iconst (-1), 1), (105, .ireturn, 1)]
def mc_212 : List (Nat × Instr × Nat) := [(0, .iconst 0, 1), (1, .istore_n 1, 1), (2, .iconst 0, 1), (3, .istore_n 2, 1), (4, .iload_n 2, 1), (5, .aload_n 0, 1), (6, .getfield 33, 3), (9, .iconst 4, 1), (10, .iaload, 1), (11, .if_icmp .ge 27, 3), (14, .iload_n 1, 1), (15, .aload_n 0, 1), (16, .iload_n 2, 1), (17, .invokevirtual 276, 3), (20, .ifCond .ne 9, 3), (23, .iconst 1, 1), (24, .iload_n 2, 1), (25, .ishl, 1), (26, .goto 4, 3), (29, .iconst 0, 1), (30, .ior, 1), (31, .istore_n 1, 1), (32, .iinc 2 1, 3), (35, .goto (-31), 3), (38, .iload_n 1, 1), (39, .ireturn, 1)]
def mc_213 : List (Nat × Instr × Nat) := [(0, .aload_n 0, 1), (1, .iconst 0, 1), (2, .putfield 1, 3), (5, .iconst 0, 1), (6, .istore_n 2, 1), (7, .iconst 0, 1), (8, .istore_n 3, 1), (9, .iload_n 3, 1), (10, .aload_n 0, 1), (11, .getfield 33, 3), (14, .iconst 0, 1), (15, .iaload, 1), (16, .if_icmp .ge 25, 3), (19, .iload_n 2, 1), (20, .aload_n 0, 1), (21, .getfield 33, 3), (24, .sipush 138, 3), (27, .iload_n 3, 1), (28, .iadd, 1), (29, .iaload, 1), (30, .invokestatic 295, 3), (33, .iadd, 1), (34, .istore_n 2, 1), (35, .iinc 3 1, 3), (38, .goto (-29), 3), (41, .iload_n 1, 1), (42, .tableswitch 77 0 5 #[38, 46, 48, 56, 64, 72], 38), (80, .aload_n 0, 1), (81, .getfield 33, 3), (84, .bipush 115, 2), (86, .iaload, 1), (87, .ireturn, 1), (88, .iload_n 2, 1), (89, .ireturn, 1), (90, .aload_n 0, 1), (91, .getfield 33, 3), (94, .bipush 116, 2), (96, .iaload, 1), (97, .ireturn, 1), (98, .aload_n 0, 1), (99, .getfield 33, 3), (102, .bipush 119, 2), (104, .iaload, 1), (105, .ireturn, 1), (106, .aload_n 0, 1), (107, .getfield 33, 3), (110, .bipush 117, 2), (112, .iaload, 1), (113, .ireturn, 1), (114, .aload_n 0, 1), (115, .invokevirtual 298, 3), (118, .ireturn, 1), (119, .iconst (-1), 1), (120, .ireturn, 1)]
def mc_214 : List (Nat × Instr × Nat) := [(0, .aload_n 0, 1), (1, .getfield 33, 3), (4, .bipush 118, 2), (6, .iaload, 1), (7, .iload_n 1, 1), (8, .invokestatic 229, 3), (11, .ifCond .eq 7, 3), (14, .iconst 1, 1), (15, .goto 31, 3), (18, .aload_n 0, 1), (19, .getfield 33, 3), (22, .iconst 5, 1), (23, .aload_n 0, 1), (24, .getfield 33, 3), (27, .bipush 120, 2), (29, .iload_n 1, 1), (30, .iadd, 1), (31, .iaload, 1), (32, .iadd, 1), (33, .iaload, 1), (34, .iload_n 2, 1), (35, .invokestatic 229, 3), (38, .ifCond .eq 7, 3), (41, .iconst 0, 1), (42, .goto 4, 3), (45, .iconst 2, 1), (46, .ireturn, 1)]
def mc_215 : List (Nat × Instr × Nat) := [(0, .aload_n 0, 1), (1, .getfield 33, 3), (4, .bipush 120, 2), (6, .iload_n 1, 1), (7, .iadd, 1), (8, .iload_n 2, 1), (9, .iastore, 1), (10, .aload_n 0, 1), (11, .iload_n 1, 1), (12, .invokevirtual 244, 3), (15, .return_, 1)]
def mc_216 : List (Nat × Instr × Nat) := [(0, .aload_n 0, 1), (1, .getfield 33, 3), (4, .bipush 118, 2), (6, .dup2, 1), (7, .iaload, 1), (8, .iconst 1, 1), (9, .iload_n 1, 1), (10, .ishl, 1), (11, .ior, 1), (12, .iastore, 1), (13, .aload_n 0, 1), (14, .iload_n 1, 1), (15, .iload_n 2, 1), (16, .invokevirtual 301, 3), (19, .return_, 1)]
def mc_217 : List (Nat × Instr × Nat) := [(0, .aload_n 0, 1), (1, .iload_n 1, 1), (2, .invokevirtual 304, 3), (5, .iload_n 2, 1), (6, .invokestatic 229, 3), (9, .ifCond .eq 7, 3), (12, .iconst 1, 1), (13, .goto 4, 3), (16, .iconst 0, 1), (17, .ireturn, 1)]
def mc_218 : List (Nat × Instr × Nat) := [(0, .aload_n 0, 1), (1, .getfield 33, 3), (4, .bipush 126, 2), (6, .iload_n 1, 1), (7, .iadd, 1), (8, .dup2, 1), (9, .iaload, 1), (10, .iconst 1, 1), (11, .iadd, 1), (12, .iastore, 1), (13, .aload_n 0, 1), (14, .getfield 33, 3), (17, .bipush 116, 2), (19, .dup2, 1), (20, .iaload, 1), (21, .iconst 1, 1), (22, .iadd, 1), (23, .iastore, 1), (24, .return_, 1)]
def mc_219 : List (Nat × Instr × Nat) := [(0, .aload_n 0, 1), (1, .getfield 33, 3), (4, .bipush 119, 2), (6, .iaload, 1), (7, .iload_n 1, 1), (8, .invokestatic 229, 3), (11, .iload_n 2, 1), (12, .iconst 1, 1), (13, .if_icmp .ne 7, 3), (16, .iconst 1, 1), (17, .goto 4, 3), (20, .iconst 0, 1), (21, .if_icmp .ne 7, 3), (24, .iconst 1, 1), (25, .goto 4, 3), (28, .iconst 0, 1), (29, .ireturn, 1)]
def mc_220 : List (Nat × Instr × Nat) := [(0, .aload_n 0, 1), (1, .getfield 33, 3), (4, .bipush 119, 2), (6, .dup2, 1), (7, .iaload, 1), (8, .iconst 1, 1), (9, .iload_n 1, 1), (10, .ishl, 1), (11, .ixor, 1), (12, .iastore, 1), (13, .iload_n 2, 1), (14, .ifCond .ne 8, 3), (17, .aload_n 0, 1), (18, .iload_n 1, 1), (19, .invokevirtual 244, 3), (22, .return_, 1)]
def mc_221 : List (Nat × Instr × Nat) := [(0, .aload_n 0, 1), (1, .iload_n 1, 1), (2, .invokevirtual 307, 3), (5, .ifCond .ne 7, 3), (8, .iconst 1, 1), (9, .goto 4, 3), (12, .iconst 0, 1), (13, .ireturn, 1)]
def mc_222 : List (Nat × Instr × Nat) := [(0, .iconst 0, 1), (1, .istore_n 2, 1), (2, .iload_n 2, 1), (3, .aload_n 0, 1), (4, .getfield 33, 3), (7, .iconst 3, 1), (8, .iaload, 1), (9, .if_icmp .ge 24, 3), (12, .aload_n 0, 1), (13, .getfield 33, 3), (16, .sipush 148, 3), (19, .iload_n 1, 1), (20, .iload_n 2, 1), (21, .invokestatic 250, 3), (24, .iadd, 1), (25, .iconst 0, 1), (26, .iastore, 1), (27, .iinc 2 1, 3), (30, .goto (-28), 3), (33, .return_, 1)]
def mc_223 : List (Nat × Instr × Nat) := [(0, .aload_n 0, 1), (1, .getfield 33, 3), (4, .sipush 138, 3), (7, .iload_n 2, 1), (8, .iadd, 1), (9, .iaload, 1), (10, .iload_n 1, 1), (11, .invokestatic 229, 3), (14, .ifCond .eq 7, 3), (17, .iconst 1, 1), (18, .goto 4, 3), (21, .iconst 0, 1), (22, .ireturn, 1)]
def mc_224 : List (Nat × Instr × Nat) := [(0, .aload_n 0, 1), (1, .getfield 33, 3), (4, .sipush 138, 3), (7, .iload_n 2, 1), (8, .iadd, 1), (9, .dup2, 1), (10, .iaload, 1), (11, .iconst 1, 1), (12, .iload_n 1, 1), (13, .ishl, 1), (14, .ior, 1), (15, .iastore, 1), (16, .iconst 0, 1), (17, .istore_n 3, 1), (18, .iload_n 3, 1), (19, .aload_n 0, 1), (20, .getfield 33, 3), (23, .iconst 4, 1), (24, .iaload, 1), (25, .if_icmp .ge 28, 3), (28, .aload_n 0, 1), (29, .getfield 33, 3), (32, .bipush 120, 2), (34, .iload_n 3, 1), (35, .iadd, 1), (36, .iaload, 1), (37, .iload_n 2, 1), (38, .if_icmp .ne 9, 3), (41, .aload_n 0, 1), (42, .iload_n 3, 1), (43, .iload_n 1, 1), (44, .invokevirtual 263, 3), (47, .iinc 3 1, 3), (50, .goto (-32), 3), (53, .return_, 1)]
def mc_225 : List (Nat × Instr × Nat) := [(0, .aload_n 0, 1), (1, .getfield 33, 3), (4, .sipush 138, 3), (7, .iload_n 1, 1), (8, .iadd, 1), (9, .iaload, 1), (10, .ifCond .ne 7, 3), (13, .iconst 1, 1), (14, .goto 4, 3), (17, .iconst 0, 1), (18, .ireturn, 1)]
def mc_226 : List (Nat × Instr × Nat) := [(0, .aload_n 0, 1), (1, .getfield 33, 3), (4, .sipush 138, 3), (7, .iload_n 1, 1), (8, .iadd, 1), (9, .iconst 0, 1), (10, .iastore, 1), (11, .aload_n 0, 1), (12, .getfield 33, 3), (15, .bipush 117, 2), (17, .dup2, 1), (18, .iaload, 1), (19, .iconst 1, 1), (20, .iadd, 1), (21, .iastore, 1), (22, .return_, 1)]
def mc_227 : List (Nat × Instr × Nat) := [(0, .aload_n 0, 1), (1, .getfield 33, 3), (4, .bipush 45, 2), (6, .iload_n 1, 1), (7, .iadd, 1), (8, .iaload, 1), (9, .istore_n 2, 1), (10, .iload_n 2, 1), (11, .ifCond .ne 4, 3), (14, .return_, 1), (15, .aload_n 0, 1), (16, .getfield 33, 3), (19, .bipush 51, 2), (21, .bipush 8, 2), (23, .iload_n 1, 1), (24, .imul, 1), (25, .iadd, 1), (26, .aload_n 0, 1), (27, .getfield 33, 3), (30, .sipush 132, 3), (33, .iload_n 1, 1), (34, .iadd, 1), (35, .iaload, 1), (36, .iload_n 2, 1), (37, .irem, 1), (38, .iadd, 1), (39, .iaload, 1), (40, .istore_n 3, 1), (41, .aload_n 0, 1), (42, .getfield 33, 3), (45, .sipush 132, 3), (48, .iload_n 1, 1), (49, .iadd, 1), (50, .aload_n 0, 1), (51, .getfield 33, 3), (54, .sipush 132, 3), (57, .iload_n 1, 1), (58, .iadd, 1), (59, .iaload, 1), (60, .iconst 1, 1), (61, .iadd, 1), (62, .iload_n 2, 1), (63, .irem, 1), (64, .iastore, 1), (65, .iload_n 3, 1), (66, .aload_n 0, 1), (67, .getfield 33, 3), (70, .bipush 120, 2), (72, .iload_n 1, 1), (73, .iadd, 1), (74, .iaload, 1), (75, .if_icmp .eq 26, 3), (78, .aload_n 0, 1), (79, .getfield 33, 3), (82, .iconst 5, 1), (83, .aload_n 0, 1), (84, .getfield 33, 3), (87, .bipush 120, 2), (89, .iload_n 1, 1), (90, .iadd, 1), (91, .iaload, 1), (92, .iadd, 1), (93, .iaload, 1), (94, .iload_n 3, 1), (95, .invokestatic 229, 3), (98, .ifCond .eq 9, 3), (101, .aload_n 0, 1), (102, .iload_n 1, 1), (103, .iload_n 3, 1), (104, .invokevirtual 301, 3), (107, .return_, 1)]
def mc_228 : List (Nat × Instr × Nat) := [(0, .iconst 0, 1), (1, .istore_n 1, 1), (2, .iload_n 1, 1), (3, .bipush 36, 2), (5, .if_icmp .ge 43, 3), (8, .aload_n 0, 1), (9, .getfield 33, 3), (12, .bipush 115, 2), (14, .iaload, 1), (15, .aload_n 0, 1), (16, .getfield 33, 3), (19, .sipush 184, 3), (22, .iload_n 1, 1), (23, .iadd, 1), (24, .iaload, 1), (25, .isub, 1), (26, .bipush 9, 2), (28, .if_icmp .lt 14, 3), (31, .aload_n 0, 1), (32, .getfield 33, 3), (35, .sipush 148, 3), (38, .iload_n 1, 1), (39, .iadd, 1), (40, .iconst 0, 1), (41, .iastore, 1), (42, .iinc 1 1, 3), (45, .goto (-43), 3), (48, .aload_n 0, 1), (49, .getfield 33, 3), (52, .bipush 115, 2), (54, .dup2, 1), (55, .iaload, 1), (56, .iconst 1, 1), (57, .iadd, 1), (58, .iastore, 1), (59, .aload_n 0, 1), (60, .getfield 33, 3), (63, .bipush 118, 2), (65, .iconst 0, 1), (66, .iastore, 1), (67, .iconst 0, 1), (68, .istore_n 1, 1), (69, .iload_n 1, 1), (70, .aload_n 0, 1), (71, .getfield 33, 3), (74, .iconst 4, 1), (75, .iaload, 1), (76, .if_icmp .ge 14, 3), (79, .aload_n 0, 1), (80, .iload_n 1, 1), (81, .invokevirtual 310, 3), (84, .iinc 1 1, 3), (87, .goto (-18), 3), (90, .return_, 1)]
def mc_229 : List (Nat × Instr × Nat) := [(0, .iconst 0, 1), (1, .istore_n 2, 1), (2, .iload_n 2, 1), (3, .iload_n 1, 1), (4, .if_icmp .ge 26, 3), (7, .aload_n 0, 1), (8, .getfield 33, 3), (11, .bipush 115, 2), (13, .iaload, 1), (14, .sipush 400, 3), (17, .if_icmp .ge 13, 3), (20, .aload_n 0, 1), (21, .invokevirtual 313, 3), (24, .iinc 2 1, 3), (27, .goto (-25), 3), (30, .iload_n 2, 1), (31, .ireturn, 1)]
def mc_230 : List (Nat × Instr × Nat) := [(0, .aload_n 0, 1), (1, .iconst 0, 1), (2, .putfield 1, 3), (5, .aload_n 0, 1), (6, .iload_n 1, 1), (7, .invokevirtual 286, 3), (10, .ifCond .eq 11, 3), (13, .aload_n 0, 1), (14, .iload_n 2, 1), (15, .invokevirtual 292, 3), (18, .ifCond .ne 5, 3), (21, .iconst (-1), 1), (22, .ireturn, 1), (23, .aload_n 0, 1), (24, .iload_n 1, 1), (25, .iload_n 2, 1), (26, .invokevirtual 316, 3), (29, .istore_n 3, 1), (30, .iload_n 3, 1), (31, .ifCond .le 5, 3), (34, .iload_n 3, 1), (35, .ireturn, 1), (36, .aload_n 0, 1), (37, .invokevirtual 319, 3), (40, .aload_n 0, 1), (41, .iload_n 1, 1), (42, .iload_n 2, 1), (43, .invokevirtual 322, 3), (46, .iconst 0, 1), (47, .ireturn, 1)]
def mc_231 : List (Nat × Instr × Nat) := [(0, .aload_n 0, 1), (1, .iconst 0, 1), (2, .putfield 1, 3), (5, .aload_n 0, 1), (6, .iload_n 1, 1), (7, .invokevirtual 286, 3), (10, .ifCond .eq 11, 3), (13, .aload_n 0, 1), (14, .iload_n 2, 1), (15, .invokevirtual 325, 3), (18, .ifCond .ne 5, 3), (21, .iconst (-1), 1), (22, .ireturn, 1), (23, .aload_n 0, 1), (24, .iload_n 1, 1), (25, .iload_n 2, 1), (26, .invokevirtual 328, 3), (29, .ifCond .le 5, 3), (32, .iconst 1, 1), (33, .ireturn, 1), (34, .aload_n 0, 1), (35, .invokevirtual 319, 3), (38, .aload_n 0, 1), (39, .iload_n 1, 1), (40, .invokevirtual 331, 3), (43, .iconst 0, 1), (44, .ireturn, 1)]
def mc_232 : List (Nat × Instr × Nat) := [(0, .aload_n 0, 1), (1, .iconst 0, 1), (2, .putfield 1, 3), (5, .aload_n 0, 1), (6, .iload_n 1, 1), (7, .invokevirtual 286, 3), (10, .ifCond .eq 12, 3), (13, .iload_n 2, 1), (14, .iconst 0, 1), (15, .iconst 1, 1), (16, .invokestatic 184, 3), (19, .ifCond .ne 5, 3), (22, .iconst (-1), 1), (23, .ireturn, 1), (24, .aload_n 0, 1), (25, .iload_n 1, 1), (26, .iload_n 2, 1), (27, .invokevirtual 334, 3), (30, .ifCond .le 5, 3), (33, .iconst 1, 1), (34, .ireturn, 1), (35, .aload_n 0, 1), (36, .invokevirtual 319, 3), (39, .aload_n 0, 1), (40, .iload_n 1, 1), (41, .iload_n 2, 1), (42, .invokevirtual 337, 3), (45, .iconst 0, 1), (46, .ireturn, 1)]
def mc_233 : List (Nat × Instr × Nat) := [(0, .aload_n 0, 1), (1, .iconst 0, 1), (2, .putfield 1, 3), (5, .aload_n 0, 1), (6, .iload_n 1, 1), (7, .invokevirtual 286, 3), (10, .ifCond .ne 5, 3), (13, .iconst (-1), 1), (14, .ireturn, 1), (15, .aload_n 0, 1), (16, .iload_n 1, 1), (17, .invokevirtual 340, 3), (20, .ifCond .le 5, 3), (23, .iconst 1, 1), (24, .ireturn, 1), (25, .aload_n 0, 1), (26, .invokevirtual 319, 3), (29, .aload_n 0, 1), (30, .iload_n 1, 1), (31, .invokevirtual 343, 3), (34, .iconst 0, 1), (35, .ireturn, 1)]
def mc_234 : List (Nat × Instr × Nat) := [(0, .aload_n 0, 1), (1, .iconst 0, 1), (2, .putfield 1, 3), (5, .aload_n 0, 1), (6, .iload_n 1, 1), (7, .invokevirtual 283, 3), (10, .ifCond .eq 11, 3), (13, .aload_n 0, 1), (14, .iload_n 2, 1), (15, .invokevirtual 292, 3), (18, .ifCond .ne 5, 3), (21, .iconst (-1), 1), (22, .ireturn, 1), (23, .aload_n 0, 1), (24, .iload_n 1, 1), (25, .iload_n 2, 1), (26, .invokevirtual 346, 3), (29, .ifCond .le 5, 3), (32, .iconst 1, 1), (33, .ireturn, 1), (34, .aload_n 0, 1), (35, .invokevirtual 319, 3), (38, .aload_n 0, 1), (39, .iload_n 1, 1), (40, .iload_n 2, 1), (41, .invokevirtual 349, 3), (44, .iconst 0, 1), (45, .ireturn, 1)]
def mc_235 : List (Nat × Instr × Nat) := [(0, .aload_n 0, 1), (1, .iconst 0, 1), (2, .putfield 1, 3), (5, .aload_n 0, 1), (6, .iload_n 1, 1), (7, .invokevirtual 292, 3), (10, .ifCond .ne 5, 3), (13, .iconst (-1), 1), (14, .ireturn, 1), (15, .aload_n 0, 1), (16, .iload_n 1, 1), (17, .invokevirtual 352, 3), (20, .ifCond .le 5, 3), (23, .iconst 1, 1), (24, .ireturn, 1), (25, .aload_n 0, 1), (26, .invokevirtual 319, 3), (29, .aload_n 0, 1), (30, .iload_n 1, 1), (31, .invokevirtual 355, 3), (34, .iconst 0, 1), (35, .ireturn, 1)]
def mc_236 : List (Nat × Instr × Nat) := [(0, .aload_n 0, 1), (1, .iconst 0, 1), (2, .putfield 1, 3), (5, .iload_n 1, 1), (6, .iconst 1, 1), (7, .bipush 60, 2), (9, .invokestatic 184, 3), (12, .ifCond .ne 5, 3), (15, .iconst (-1), 1), (16, .ireturn, 1), (17, .aload_n 0, 1), (18, .getfield 33, 3), (21, .bipush 115, 2), (23, .iaload, 1), (24, .sipush 400, 3), (27, .if_icmp .ne 5, 3), (30, .iconst 0, 1), (31, .ireturn, 1), (32, .aload_n 0, 1), (33, .invokevirtual 319, 3), (36, .aload_n 0, 1), (37, .iload_n 1, 1), (38, .invokevirtual 358, 3), (41, .ireturn, 1)]
def mc_237 : List (Nat × Instr × Nat) := [(0, .aload_n 0, 1), (1, .getfield 247, 3), (4, .bipush 8, 2), (6, .if_icmp .ne 39, 3), (9, .iconst 0, 1), (10, .istore_n 1, 1), (11, .iload_n 1, 1), (12, .sipush 805, 3), (15, .if_icmp .ge 24, 3), (18, .aload_n 0, 1), (19, .getfield 50, 3), (22, .iload_n 1, 1), (23, .aload_n 0, 1), (24, .getfield 50, 3), (27, .iload_n 1, 1), (28, .bipush 115, 2), (30, .iadd, 1), (31, .iaload, 1), (32, .iastore, 1), (33, .iinc 1 1, 3), (36, .goto (-25), 3), (39, .aload_n 0, 1), (40, .bipush 7, 2), (42, .putfield 247, 3), (45, .iconst 0, 1), (46, .istore_n 1, 1), (47, .iload_n 1, 1), (48, .bipush 115, 2), (50, .if_icmp .ge 32, 3), (53, .aload_n 0, 1), (54, .getfield 50, 3), (57, .bipush 115, 2), (59, .aload_n 0, 1), (60, .getfield 247, 3), (63, .imul, 1), (64, .iload_n 1, 1), (65, .iadd, 1), (66, .aload_n 0, 1), (67, .getfield 33, 3), (70, .bipush 115, 2), (72, .iload_n 1, 1), (73, .iadd, 1), (74, .iaload, 1), (75, .iastore, 1), (76, .iinc 1 1, 3), (79, .goto (-32), 3), (82, .aload_n 0, 1), (83, .dup, 1), (84, .getfield 247, 3), (87, .iconst 1, 1), (88, .iadd, 1), (89, .putfield 247, 3), (92, .return_, 1)]
def mc_238 : List (Nat × Instr × Nat) := [(0, .aload_n 0, 1), (1, .iconst 0, 1), (2, .putfield 1, 3), (5, .aload_n 0, 1), (6, .getfield 247, 3), (9, .ifCond .ne 5, 3), (12, .iconst (-1), 1), (13, .ireturn, 1), (14, .aload_n 0, 1), (15, .dup, 1), (16, .getfield 247, 3), (19, .iconst 1, 1), (20, .isub, 1), (21, .putfield 247, 3), (24, .iconst 0, 1), (25, .istore_n 1, 1), (26, .iload_n 1, 1), (27, .bipush 115, 2), (29, .if_icmp .ge 32, 3), (32, .aload_n 0, 1), (33, .getfield 33, 3), (36, .bipush 115, 2), (38, .iload_n 1, 1), (39, .iadd, 1), (40, .aload_n 0, 1), (41, .getfield 50, 3), (44, .bipush 115, 2), (46, .aload_n 0, 1), (47, .getfield 247, 3), (50, .imul, 1), (51, .iload_n 1, 1), (52, .iadd, 1), (53, .iaload, 1), (54, .iastore, 1), (55, .iinc 1 1, 3), (58, .goto (-32), 3), (61, .aload_n 0, 1), (62, .getfield 247, 3), (65, .ireturn, 1)]
def mc_239 : List (Nat × Instr × Nat) := [(0, .iconst 0, 1), (1, .istore_n 1, 1), (2, .iload_n 1, 1), (3, .bipush 115, 2), (5, .if_icmp .ge 24, 3), (8, .aload_n 0, 1), (9, .getfield 53, 3), (12, .iload_n 1, 1), (13, .aload_n 0, 1), (14, .getfield 33, 3), (17, .bipush 115, 2), (19, .iload_n 1, 1), (20, .iadd, 1), (21, .iaload, 1), (22, .iastore, 1), (23, .iinc 1 1, 3), (26, .goto (-24), 3), (29, .return_, 1)]
def mc_240 : List (Nat × Instr × Nat) := [(0, .iconst 0, 1), (1, .istore_n 1, 1), (2, .iload_n 1, 1), (3, .bipush 115, 2), (5, .if_icmp .ge 24, 3), (8, .aload_n 0, 1), (9, .getfield 33, 3), (12, .bipush 115, 2), (14, .iload_n 1, 1), (15, .iadd, 1), (16, .aload_n 0, 1), (17, .getfield 53, 3), (20, .iload_n 1, 1), (21, .iaload, 1), (22, .iastore, 1), (23, .iinc 1 1, 3), (26, .goto (-24), 3), (29, .return_, 1)]
def mc_241 : List (Nat × Instr × Nat) := [(0, .aload_n 0, 1), (1, .iconst 0, 1), (2, .putfield 1, 3), (5, .aload_n 0, 1), (6, .iload_n 1, 1), (7, .invokevirtual 286, 3), (10, .ifCond .eq 28, 3), (13, .aload_n 0, 1), (14, .iload_n 2, 1), (15, .invokevirtual 283, 3), (18, .ifCond .eq 20, 3), (21, .aload_n 0, 1), (22, .getfield 33, 3), (25, .sipush 148, 3), (28, .iload_n 1, 1), (29, .iload_n 2, 1), (30, .invokestatic 250, 3), (33, .iadd, 1), (34, .iaload, 1), (35, .goto 4, 3), (38, .iconst (-1), 1), (39, .ireturn, 1)]
def mc_242 : List (Nat × Instr × Nat) := [(0, .aload_n 0, 1), (1, .iconst 0, 1), (2, .putfield 1, 3), (5, .aload_n 0, 1), (6, .iload_n 1, 1), (7, .invokevirtual 286, 3), (10, .ifCond .eq 20, 3), (13, .aload_n 0, 1), (14, .iload_n 2, 1), (15, .invokevirtual 283, 3), (18, .ifCond .eq 12, 3), (21, .aload_n 0, 1), (22, .iload_n 1, 1), (23, .iload_n 2, 1), (24, .invokevirtual 267, 3), (27, .goto 4, 3), (30, .iconst (-1), 1), (31, .ireturn, 1)]
def mc_243 : List (Nat × Instr × Nat) := [(0, .aload_n 0, 1), (1, .iconst 0, 1), (2, .putfield 1, 3), (5, .aload_n 0, 1), (6, .iload_n 1, 1), (7, .invokevirtual 286, 3), (10, .ifCond .eq 11, 3), (13, .aload_n 0, 1), (14, .iload_n 1, 1), (15, .invokevirtual 276, 3), (18, .goto 4, 3), (21, .iconst (-1), 1), (22, .ireturn, 1)]
def mc_244 : List (Nat × Instr × Nat) := [(0, .aload_n 0, 1), (1, .iconst 0, 1), (2, .putfield 1, 3), (5, .aload_n 0, 1), (6, .iload_n 1, 1), (7, .invokevirtual 286, 3), (10, .ifCond .eq 11, 3), (13, .aload_n 0, 1), (14, .iload_n 1, 1), (15, .invokevirtual 304, 3), (18, .goto 4, 3), (21, .iconst (-1), 1), (22, .ireturn, 1)]
def mc_245 : List (Nat × Instr × Nat) := [(0, .aload_n 0, 1), (1, .iconst 0, 1), (2, .putfield 1, 3), (5, .aload_n 0, 1), (6, .iload_n 1, 1), (7, .invokevirtual 286, 3), (10, .ifCond .ne 5, 3), (13, .iconst (-1), 1), (14, .ireturn, 1), (15, .iconst 0, 1), (16, .istore_n 2, 1), (17, .iconst 0, 1), (18, .istore_n 3, 1), (19, .iload_n 3, 1), (20, .aload_n 0, 1), (21, .getfield 33, 3), (24, .iconst 3, 1), (25, .iaload, 1), (26, .if_icmp .ge 38, 3), (29, .iload_n 2, 1), (30, .aload_n 0, 1), (31, .iload_n 1, 1), (32, .iload_n 3, 1), (33, .invokevirtual 267, 3), (36, .iconst 2, 1), (37, .if_icmp .ne 18, 3), (40, .aload_n 0, 1), (41, .iload_n 1, 1), (42, .iload_n 3, 1), (43, .invokevirtual 270, 3), (46, .ifCond .eq 9, 3), (49, .iconst 1, 1), (50, .iload_n 3, 1), (51, .ishl, 1), (52, .goto 4, 3), (55, .iconst 0, 1), (56, .ior, 1), (57, .istore_n 2, 1), (58, .iinc 3 1, 3), (61, .goto (-42), 3), (64, .iload_n 2, 1), (65, .ireturn, 1)]
def mc_246 : List (Nat × Instr × Nat) := [(0, .aload_n 0, 1), (1, .iconst 0, 1), (2, .putfield 1, 3), (5, .aload_n 0, 1), (6, .iload_n 1, 1), (7, .invokevirtual 283, 3), (10, .ifCond .ne 5, 3), (13, .iconst (-1), 1), (14, .ireturn, 1), (15, .iconst 0, 1), (16, .istore_n 2, 1), (17, .iconst 0, 1), (18, .istore_n 3, 1), (19, .iload_n 3, 1), (20, .aload_n 0, 1), (21, .getfield 33, 3), (24, .iconst 4, 1), (25, .iaload, 1), (26, .if_icmp .ge 28, 3), (29, .iload_n 2, 1), (30, .aload_n 0, 1), (31, .iload_n 3, 1), (32, .iload_n 1, 1), (33, .invokevirtual 273, 3), (36, .ifCond .eq 9, 3), (39, .iconst 1, 1), (40, .iload_n 3, 1), (41, .ishl, 1), (42, .goto 4, 3), (45, .iconst 0, 1), (46, .ior, 1), (47, .istore_n 2, 1), (48, .iinc 3 1, 3), (51, .goto (-32), 3), (54, .iload_n 2, 1), (55, .ireturn, 1)]
def mc_247 : List (Nat × Instr × Nat) := [(0, .aload_n 0, 1), (1, .iconst 0, 1), (2, .putfield 1, 3), (5, .aload_n 0, 1), (6, .iload_n 1, 1), (7, .invokevirtual 286, 3), (10, .ifCond .eq 28, 3), (13, .aload_n 0, 1), (14, .iload_n 2, 1), (15, .invokevirtual 283, 3), (18, .ifCond .eq 20, 3), (21, .aload_n 0, 1), (22, .getfield 33, 3), (25, .sipush 148, 3), (28, .iload_n 1, 1), (29, .iload_n 2, 1), (30, .invokestatic 250, 3), (33, .iadd, 1), (34, .iaload, 1), (35, .ifCond .ne 5, 3), (38, .iconst (-1), 1), (39, .ireturn, 1), (40, .aload_n 0, 1), (41, .getfield 33, 3), (44, .sipush 184, 3), (47, .iload_n 1, 1), (48, .iload_n 2, 1), (49, .invokestatic 250, 3), (52, .iadd, 1), (53, .iaload, 1), (54, .bipush 9, 2), (56, .iadd, 1), (57, .iconst 1, 1), (58, .iadd, 1), (59, .aload_n 0, 1), (60, .getfield 33, 3), (63, .bipush 115, 2), (65, .iaload, 1), (66, .isub, 1), (67, .ireturn, 1)]
def mc_248 : List (Nat × Instr × Nat) := [(0, .aload_n 0, 1), (1, .iconst 0, 1), (2, .putfield 1, 3), (5, .aload_n 0, 1), (6, .iload_n 1, 1), (7, .invokevirtual 286, 3), (10, .ifCond .ne 5, 3), (13, .iconst (-1), 1), (14, .ireturn, 1), (15, .iconst 0, 1), (16, .istore_n 2, 1), (17, .iconst 0, 1), (18, .istore_n 3, 1), (19, .iload_n 3, 1), (20, .bipush 6, 2), (22, .if_icmp .ge 84, 3), (25, .iconst 0, 1), (26, .istore 4, 2), (28, .iload 4, 2), (30, .aload_n 0, 1), (31, .getfield 33, 3), (34, .iconst 4, 1), (35, .iaload, 1), (36, .if_icmp .ge 64, 3), (39, .aload_n 0, 1), (40, .getfield 33, 3), (43, .bipush 99, 2), (45, .iload 4, 2), (47, .iadd, 1), (48, .iaload, 1), (49, .iload_n 1, 1), (50, .iconst 1, 1), (51, .iadd, 1), (52, .if_icmp .eq 35, 3), (55, .aload_n 0, 1), (56, .getfield 33, 3), (59, .bipush 99, 2), (61, .iload 4, 2), (63, .iadd, 1), (64, .iaload, 1), (65, .ifCond .le 29, 3), (68, .iload_n 2, 1), (69, .aload_n 0, 1), (70, .getfield 33, 3), (73, .bipush 99, 2), (75, .iload 4, 2), (77, .iadd, 1), (78, .iaload, 1), (79, .iconst 1, 1), (80, .isub, 1), (81, .invokestatic 229, 3), (84, .ifCond .eq 10, 3), (87, .iload_n 2, 1), (88, .iconst 1, 1), (89, .iload 4, 2), (91, .ishl, 1), (92, .ior, 1), (93, .istore_n 2, 1), (94, .iinc 4 1, 3), (97, .goto (-69), 3), (100, .iinc 3 1, 3), (103, .goto (-84), 3), (106, .iload_n 2, 1), (107, .ireturn, 1)]
def mc_249 : List (Nat × Instr × Nat) := [(0, .aload_n 0, 1), (1, .getfield 33, 3), (4, .sipush 138, 3), (7, .iload_n 1, 1), (8, .iadd, 1), (9, .iaload, 1), (10, .iload_n 2, 1), (11, .iand, 1), (12, .ifCond .ne 7, 3), (15, .iconst 1, 1), (16, .goto 4, 3), (19, .iconst 0, 1), (20, .ireturn, 1)]
def mc_250 : List (Nat × Instr × Nat) := [(0, .iload_n 1, 1), (1, .iload_n 2, 1), (2, .if_icmp .ne 5, 3), (5, .iconst 0, 1), (6, .ireturn, 1), (7, .aload_n 0, 1), (8, .iload_n 2, 1), (9, .iload_n 3, 1), (10, .invokevirtual 361, 3), (13, .ifCond .ne 5, 3), (16, .iconst (-1), 1), (17, .ireturn, 1), (18, .iconst 0, 1), (19, .istore 4, 2), (21, .iload 4, 2), (23, .bipush 10, 2), (25, .if_icmp .ge 28, 3), (28, .aload_n 0, 1), (29, .getfield 56, 3), (32, .iload 4, 2), (34, .iload 4, 2), (36, .iload_n 2, 1), (37, .if_icmp .ne 7, 3), (40, .iconst 0, 1), (41, .goto 5, 3), (44, .bipush 100, 2), (46, .iastore, 1), (47, .iinc 4 1, 3), (50, .goto (-29), 3), (53, .iconst 0, 1), (54, .istore 4, 2), (56, .iload 4, 2), (58, .bipush 10, 2), (60, .if_icmp .ge 111, 3), (63, .iconst 0, 1), (64, .istore 5, 2), (66, .iload 5, 2), (68, .aload_n 0, 1), (69, .getfield 33, 3), (72, .iconst 0, 1), (73, .iaload, 1), (74, .if_icmp .ge 91, 3), (77, .iconst 0, 1), (78, .istore 6, 2), (80, .iload 6, 2), (82, .aload_n 0, 1), (83, .getfield 33, 3), (86, .iconst 0, 1), (87, .iaload, 1), (88, .if_icmp .ge 71, 3), (91, .aload_n 0, 1), (92, .getfield 33, 3), (95, .iconst 5, 1), (96, .iload 5, 2), (98, .iadd, 1), (99, .iaload, 1), (100, .iload 6, 2), (102, .invokestatic 229, 3), (105, .ifCond .eq 48, 3), (108, .aload_n 0, 1), (109, .iload 6, 2), (111, .iload_n 3, 1), (112, .invokevirtual 361, 3), (115, .ifCond .eq 38, 3), (118, .aload_n 0, 1), (119, .getfield 56, 3), (122, .iload 6, 2), (124, .iaload, 1), (125, .iconst 1, 1), (126, .iadd, 1), (127, .aload_n 0, 1), (128, .getfield 56, 3), (131, .iload 5, 2), (133, .iaload, 1), (134, .if_icmp .ge 19, 3), (137, .aload_n 0, 1), (138, .getfield 56, 3), (141, .iload 5, 2), (143, .aload_n 0, 1), (144, .getfield 56, 3), (147, .iload 6, 2), (149, .iaload, 1), (150, .iconst 1, 1), (151, .iadd, 1), (152, .iastore, 1), (153, .iinc 6 1, 3), (156, .goto (-76), 3), (159, .iinc 5 1, 3), (162, .goto (-96), 3), (165, .iinc 4 1, 3), (168, .goto (-112), 3), (171, .aload_n 0, 1), (172, .getfield 56, 3), (175, .iload_n 1, 1), (176, .iaload, 1), (177, .istore 4, 2), (179, .iload 4, 2), (181, .bipush 100, 2), (183, .if_icmp .lt 5, 3), (186, .iconst (-1), 1), (187, .ireturn, 1), (188, .iload_n 1, 1), (189, .istore 5, 2), (191, .iconst 0, 1), (192, .istore 6, 2), (194, .iload 6, 2), (196, .iload 4, 2), (198, .if_icmp .ge 75, 3), (201, .iconst 0, 1), (202, .istore 7, 2), (204, .aload_n 0, 1), (205, .getfield 33, 3), (208, .iconst 5, 1), (209, .iload 5, 2), (211, .iadd, 1), (212, .iaload, 1), (213, .iload 7, 2), (215, .invokestatic 229, 3), (218, .ifCond .eq 30, 3), (221, .aload_n 0, 1), (222, .iload 7, 2), (224, .iload_n 3, 1), (225, .invokevirtual 361, 3), (228, .ifCond .eq 20, 3), (231, .aload_n 0, 1), (232, .getfield 56, 3), (235, .iload 7, 2), (237, .iaload, 1), (238, .iload 4, 2), (240, .iconst 1, 1), (241, .isub, 1), (242, .iload 6, 2), (244, .isub, 1), (245, .if_icmp .eq 9, 3), (248, .iinc 7 1, 3), (251, .goto (-47), 3), (254, .aload_n 0, 1), (255, .getfield 59, 3), (258, .iload 6, 2), (260, .iload 7, 2), (262, .iastore, 1), (263, .iload 7, 2), (265, .istore 5, 2), (267, .iinc 6 1, 3), (270, .goto (-76), 3), (273, .iload 4, 2), (275, .ireturn, 1)]
def mc_251 : List (Nat × Instr × Nat) := [(0, .aload_n 0, 1), (1, .iconst 0, 1), (2, .putfield 1, 3), (5, .aload_n 0, 1), (6, .iload_n 1, 1), (7, .invokevirtual 286, 3), (10, .ifCond .eq 27, 3), (13, .aload_n 0, 1), (14, .iload_n 2, 1), (15, .invokevirtual 292, 3), (18, .ifCond .eq 19, 3), (21, .iload_n 3, 1), (22, .ifCond .lt 15, 3), (25, .iload_n 3, 1), (26, .iconst 1, 1), (27, .aload_n 0, 1), (28, .getfield 33, 3), (31, .iconst 3, 1), (32, .iaload, 1), (33, .ishl, 1), (34, .if_icmp .lt 5, 3), (37, .iconst (-1), 1), (38, .ireturn, 1), (39, .aload_n 0, 1), (40, .aload_n 0, 1), (41, .getfield 33, 3), (44, .bipush 120, 2), (46, .iload_n 1, 1), (47, .iadd, 1), (48, .iaload, 1), (49, .iload_n 2, 1), (50, .iload_n 3, 1), (51, .invokevirtual 364, 3), (54, .istore 4, 2), (56, .iload 4, 2), (58, .ifCond .ge 5, 3), (61, .iconst (-1), 1), (62, .ireturn, 1), (63, .aload_n 0, 1), (64, .iload 4, 2), (66, .putfield 368, 3), (69, .iconst 0, 1), (70, .istore 5, 2), (72, .iload 5, 2), (74, .iload 4, 2), (76, .if_icmp .ge 23, 3), (79, .aload_n 0, 1), (80, .getfield 62, 3), (83, .iload 5, 2), (85, .aload_n 0, 1), (86, .getfield 59, 3), (89, .iload 5, 2), (91, .iaload, 1), (92, .iastore, 1), (93, .iinc 5 1, 3), (96, .goto (-24), 3), (99, .iload 4, 2), (101, .ireturn, 1)]
def mc_252 : List (Nat × Instr × Nat) := [(0, .aload_n 0, 1), (1, .iconst 0, 1), (2, .putfield 1, 3), (5, .iload_n 1, 1), (6, .iconst 0, 1), (7, .aload_n 0, 1), (8, .getfield 368, 3), (11, .iconst 1, 1), (12, .isub, 1), (13, .invokestatic 184, 3), (16, .ifCond .eq 12, 3), (19, .aload_n 0, 1), (20, .getfield 62, 3), (23, .iload_n 1, 1), (24, .iaload, 1), (25, .goto 4, 3), (28, .iconst (-1), 1), (29, .ireturn, 1)]
def mc_253 : List (Nat × Instr × Nat) := [(0, .aload_n 0, 1), (1, .iconst 0, 1), (2, .putfield 1, 3), (5, .aload_n 0, 1), (6, .iload_n 1, 1), (7, .invokevirtual 286, 3), (10, .ifCond .eq 11, 3), (13, .aload_n 0, 1), (14, .iload_n 2, 1), (15, .invokevirtual 292, 3), (18, .ifCond .ne 5, 3), (21, .iconst (-1), 1), (22, .ireturn, 1), (23, .aload_n 0, 1), (24, .aload_n 0, 1), (25, .getfield 33, 3), (28, .bipush 120, 2), (30, .iload_n 1, 1), (31, .iadd, 1), (32, .iaload, 1), (33, .iload_n 2, 1), (34, .iconst 0, 1), (35, .invokevirtual 364, 3), (38, .istore_n 3, 1), (39, .iload_n 3, 1), (40, .ifCond .ge 5, 3), (43, .iconst (-1), 1), (44, .ireturn, 1), (45, .iconst 0, 1), (46, .istore 4, 2), (48, .iconst 0, 1), (49, .istore 5, 2), (51, .iload 5, 2), (53, .iload_n 3, 1), (54, .if_icmp .ge 30, 3), (57, .iload 4, 2), (59, .aload_n 0, 1), (60, .getfield 33, 3), (63, .sipush 138, 3), (66, .aload_n 0, 1), (67, .getfield 59, 3), (70, .iload 5, 2), (72, .iaload, 1), (73, .iadd, 1), (74, .iaload, 1), (75, .ior, 1), (76, .istore 4, 2), (78, .iinc 5 1, 3), (81, .goto (-30), 3), (84, .iconst 0, 1), (85, .istore 5, 2), (87, .iload 5, 2), (89, .aload_n 0, 1), (90, .getfield 33, 3), (93, .iconst 3, 1), (94, .iaload, 1), (95, .if_icmp .ge 31, 3), (98, .aload_n 0, 1), (99, .iload_n 1, 1), (100, .iload 5, 2), (102, .invokevirtual 267, 3), (105, .iconst 2, 1), (106, .if_icmp .ne 14, 3), (109, .iload 4, 2), (111, .iconst 1, 1), (112, .iload 5, 2), (114, .ishl, 1), (115, .iconst (-1), 1), (116, .ixor, 1), (117, .iand, 1), (118, .istore 4, 2), (120, .iinc 5 1, 3), (123, .goto (-36), 3), (126, .iload 4, 2), (128, .ireturn, 1)]
def mc_254 : List (Nat × Instr × Nat) := [(0, .aload_n 0, 1), (1, .iload_n 1, 1), (2, .iconst 1, 1), (3, .iload_n 3, 1), (4, .ishl, 1), (5, .invokevirtual 361, 3), (8, .ifCond .eq 19, 3), (11, .aload_n 0, 1), (12, .iload_n 1, 1), (13, .iload_n 2, 1), (14, .iconst 1, 1), (15, .iload_n 3, 1), (16, .ishl, 1), (17, .invokevirtual 364, 3), (20, .ifCond .lt 7, 3), (23, .iconst 1, 1), (24, .goto 4, 3), (27, .iconst 0, 1), (28, .ireturn, 1)]
def mc_255 : List (Nat × Instr × Nat) := [(0, .aload_n 0, 1), (1, .iconst 0, 1), (2, .putfield 1, 3), (5, .aload_n 0, 1), (6, .iload_n 1, 1), (7, .invokevirtual 292, 3), (10, .ifCond .eq 24, 3), (13, .aload_n 0, 1), (14, .iload_n 2, 1), (15, .invokevirtual 292, 3), (18, .ifCond .eq 16, 3), (21, .aload_n 0, 1), (22, .iload_n 3, 1), (23, .invokevirtual 283, 3), (26, .ifCond .eq 8, 3), (29, .iload_n 1, 1), (30, .iload_n 2, 1), (31, .if_icmp .ne 5, 3), (34, .iconst (-1), 1), (35, .ireturn, 1), (36, .aload_n 0, 1), (37, .invokevirtual 371, 3), (40, .iconst (-1), 1), (41, .istore 4, 2), (43, .iconst 0, 1), (44, .istore 5, 2), (46, .iload 5, 2), (48, .iconst 1, 1), (49, .aload_n 0, 1), (50, .getfield 33, 3), (53, .iconst 0, 1), (54, .iaload, 1), (55, .ishl, 1), (56, .if_icmp .ge 113, 3), (59, .iload 5, 2), (61, .iload_n 1, 1), (62, .invokestatic 229, 3), (65, .ifCond .ne 98, 3), (68, .iload 5, 2), (70, .iload_n 2, 1), (71, .invokestatic 229, 3), (74, .ifCond .ne 89, 3), (77, .iload 4, 2), (79, .ifCond .lt 19, 3), (82, .iload 5, 2), (84, .invokestatic 295, 3), (87, .iload 4, 2), (89, .invokestatic 295, 3), (92, .if_icmp .lt 6, 3), (95, .goto 68, 3), (98, .iconst 0, 1), (99, .istore 6, 2), (101, .iload 6, 2), (103, .aload_n 0, 1), (104, .getfield 33, 3), (107, .iconst 0, 1), (108, .iaload, 1), (109, .if_icmp .ge 36, 3), (112, .iload 5, 2), (114, .iload 6, 2), (116, .invokestatic 229, 3), (119, .ifCond .eq 20, 3), (122, .aload_n 0, 1), (123, .getfield 33, 3), (126, .sipush 138, 3), (129, .iload 6, 2), (131, .iadd, 1), (132, .dup2, 1), (133, .iaload, 1), (134, .iconst 1, 1), (135, .iload_n 3, 1), (136, .ishl, 1), (137, .ior, 1), (138, .iastore, 1), (139, .iinc 6 1, 3), (142, .goto (-41), 3), (145, .aload_n 0, 1), (146, .iload_n 1, 1), (147, .iload_n 2, 1), (148, .iload_n 3, 1), (149, .invokevirtual 374, 3), (152, .ifCond .ne 7, 3), (155, .iload 5, 2), (157, .istore 4, 2), (159, .aload_n 0, 1), (160, .invokevirtual 377, 3), (163, .iinc 5 1, 3), (166, .goto (-120), 3), (169, .iload 4, 2), (171, .ireturn, 1)]
def mc_256 : List (Nat × Instr × Nat) := [(0, .iconst 0, 1), (1, .istore_n 2, 1), (2, .iconst 0, 1), (3, .istore_n 3, 1), (4, .iload_n 3, 1), (5, .aload_n 0, 1), (6, .getfield 33, 3), (9, .iconst 4, 1), (10, .iaload, 1), (11, .if_icmp .ge 29, 3), (14, .iload_n 2, 1), (15, .aload_n 0, 1), (16, .iload_n 3, 1), (17, .iload_n 1, 1), (18, .invokevirtual 267, 3), (21, .iconst 2, 1), (22, .if_icmp .ne 9, 3), (25, .iconst 1, 1), (26, .iload_n 3, 1), (27, .ishl, 1), (28, .goto 4, 3), (31, .iconst 0, 1), (32, .ior, 1), (33, .istore_n 2, 1), (34, .iinc 3 1, 3), (37, .goto (-33), 3), (40, .iload_n 2, 1), (41, .ireturn, 1)]
def mc_257 : List (Nat × Instr × Nat) := [(0, .aload_n 0, 1), (1, .iconst 0, 1), (2, .putfield 1, 3), (5, .aload_n 0, 1), (6, .iload_n 1, 1), (7, .invokevirtual 283, 3), (10, .ifCond .eq 22, 3), (13, .iload_n 2, 1), (14, .iconst 1, 1), (15, .iconst 3, 1), (16, .invokestatic 184, 3), (19, .ifCond .eq 13, 3), (22, .iload_n 2, 1), (23, .aload_n 0, 1), (24, .getfield 33, 3), (27, .iconst 0, 1), (28, .iaload, 1), (29, .if_icmp .le 5, 3), (32, .iconst (-1), 1), (33, .ireturn, 1), (34, .aload_n 0, 1), (35, .invokevirtual 371, 3), (38, .iconst (-1), 1), (39, .istore_n 3, 1), (40, .iconst 0, 1), (41, .istore 4, 2), (43, .iconst 0, 1), (44, .istore 5, 2), (46, .iload 5, 2), (48, .iconst 1, 1), (49, .aload_n 0, 1), (50, .getfield 33, 3), (53, .iconst 0, 1), (54, .iaload, 1), (55, .ishl, 1), (56, .if_icmp .ge 113, 3), (59, .iload 5, 2), (61, .invokestatic 295, 3), (64, .iload_n 2, 1), (65, .if_icmp .eq 6, 3), (68, .goto 95, 3), (71, .iconst 0, 1), (72, .istore 6, 2), (74, .iload 6, 2), (76, .aload_n 0, 1), (77, .getfield 33, 3), (80, .iconst 0, 1), (81, .iaload, 1), (82, .if_icmp .ge 36, 3), (85, .iload 5, 2), (87, .iload 6, 2), (89, .invokestatic 229, 3), (92, .ifCond .eq 20, 3), (95, .aload_n 0, 1), (96, .iload_n 1, 1), (97, .iload 6, 2), (99, .invokevirtual 346, 3), (102, .ifCond .ne 10, 3), (105, .aload_n 0, 1), (106, .iload_n 1, 1), (107, .iload 6, 2), (109, .invokevirtual 349, 3), (112, .iinc 6 1, 3), (115, .goto (-41), 3), (118, .aload_n 0, 1), (119, .bipush 7, 2), (121, .invokevirtual 358, 3), (124, .pop, 1), (125, .aload_n 0, 1), (126, .iload_n 1, 1), (127, .invokevirtual 380, 3), (130, .istore 6, 2), (132, .aload_n 0, 1), (133, .invokevirtual 377, 3), (136, .iload_n 3, 1), (137, .ifCond .lt 19, 3), (140, .iload 6, 2), (142, .invokestatic 295, 3), (145, .iload 4, 2), (147, .invokestatic 295, 3), (150, .if_icmp .gt 6, 3), (153, .goto 10, 3), (156, .iload 5, 2), (158, .istore_n 3, 1), (159, .iload 6, 2), (161, .istore 4, 2), (163, .iinc 5 1, 3), (166, .goto (-120), 3), (169, .aload_n 0, 1), (170, .iconst 1, 1), (171, .putfield 383, 3), (174, .aload_n 0, 1), (175, .iload 4, 2), (177, .putfield 387, 3), (180, .iload_n 3, 1), (181, .ireturn, 1)]
def mc_258 : List (Nat × Instr × Nat) := [(0, .aload_n 0, 1), (1, .iconst 0, 1), (2, .putfield 1, 3), (5, .aload_n 0, 1), (6, .getfield 383, 3), (9, .ifCond .eq 10, 3), (12, .aload_n 0, 1), (13, .getfield 387, 3), (16, .goto 4, 3), (19, .iconst (-1), 1), (20, .ireturn, 1)]
def mc_259 : List (Nat × Instr × Nat) := [(0, .aload_n 0, 1), (1, .iconst 0, 1), (2, .putfield 1, 3), (5, .iload_n 1, 1), (6, .ifCond .lt 15, 3), (9, .iload_n 1, 1), (10, .iconst 1, 1), (11, .aload_n 0, 1), (12, .getfield 33, 3), (15, .iconst 2, 1), (16, .iaload, 1), (17, .ishl, 1), (18, .if_icmp .lt 5, 3), (21, .iconst (-1), 1), (22, .ireturn, 1), (23, .iconst 0, 1), (24, .istore_n 2, 1), (25, .bipush 63, 2), (27, .istore_n 3, 1), (28, .iconst 0, 1), (29, .istore 4, 2), (31, .iload 4, 2), (33, .iconst 1, 1), (34, .aload_n 0, 1), (35, .getfield 33, 3), (38, .iconst 3, 1), (39, .iaload, 1), (40, .ishl, 1), (41, .if_icmp .ge 97, 3), (44, .aload_n 0, 1), (45, .iload 4, 2), (47, .invokevirtual 280, 3), (50, .iload_n 1, 1), (51, .if_icmp .ne 7, 3), (54, .iconst 1, 1), (55, .goto 4, 3), (58, .iconst 0, 1), (59, .istore 5, 2), (61, .iconst 0, 1), (62, .istore 6, 2), (64, .iload 6, 2), (66, .aload_n 0, 1), (67, .getfield 33, 3), (70, .iconst 3, 1), (71, .iaload, 1), (72, .if_icmp .ge 44, 3), (75, .iload 5, 2), (77, .ifCond .eq 30, 3), (80, .iload 4, 2), (82, .iload 6, 2), (84, .invokestatic 229, 3), (87, .ifCond .eq 16, 3), (90, .aload_n 0, 1), (91, .getfield 33, 3), (94, .bipush 27, 2), (96, .iload 6, 2), (98, .iadd, 1), (99, .iaload, 1), (100, .ifCond .ne 7, 3), (103, .iconst 1, 1), (104, .goto 4, 3), (107, .iconst 0, 1), (108, .istore 5, 2), (110, .iinc 6 1, 3), (113, .goto (-49), 3), (116, .iload 5, 2), (118, .ifCond .ne 6, 3), (121, .goto 11, 3), (124, .iinc 2 1, 3), (127, .iload_n 3, 1), (128, .iload 4, 2), (130, .iand, 1), (131, .istore_n 3, 1), (132, .iinc 4 1, 3), (135, .goto (-104), 3), (138, .iload_n 2, 1), (139, .ifCond .le 13, 3), (142, .aload_n 0, 1), (143, .iconst 1, 1), (144, .putfield 390, 3), (147, .aload_n 0, 1), (148, .iload_n 3, 1), (149, .putfield 393, 3), (152, .iload_n 2, 1), (153, .ireturn, 1)]
def mc_260 : List (Nat × Instr × Nat) := [(0, .aload_n 0, 1), (1, .iconst 0, 1), (2, .putfield 1, 3), (5, .aload_n 0, 1), (6, .getfield 390, 3), (9, .ifCond .eq 10, 3), (12, .aload_n 0, 1), (13, .getfield 393, 3), (16, .goto 4, 3), (19, .iconst (-1), 1), (20, .ireturn, 1)]
def mc_261 : List (Nat × Instr × Nat) := [(0, .aload_n 0, 1), (1, .iconst 0, 1), (2, .putfield 1, 3), (5, .aload_n 0, 1), (6, .iload_n 1, 1), (7, .invokevirtual 286, 3), (10, .ifCond .eq 21, 3), (13, .aload_n 0, 1), (14, .iload_n 2, 1), (15, .invokevirtual 283, 3), (18, .ifCond .eq 13, 3), (21, .iload_n 3, 1), (22, .iconst 1, 1), (23, .bipush 60, 2), (25, .invokestatic 184, 3), (28, .ifCond .ne 5, 3), (31, .iconst (-1), 1), (32, .ireturn, 1), (33, .aload_n 0, 1), (34, .iload_n 1, 1), (35, .iload_n 2, 1), (36, .invokevirtual 273, 3), (39, .ifCond .eq 11, 3), (42, .aload_n 0, 1), (43, .getfield 33, 3), (46, .bipush 115, 2), (48, .iaload, 1), (49, .ireturn, 1), (50, .aload_n 0, 1), (51, .invokevirtual 371, 3), (54, .iconst (-1), 1), (55, .istore 4, 2), (57, .iconst 0, 1), (58, .istore 5, 2), (60, .iload 5, 2), (62, .iload_n 3, 1), (63, .if_icmp .ge 41, 3), (66, .iload 4, 2), (68, .ifCond .ge 36, 3), (71, .aload_n 0, 1), (72, .iconst 1, 1), (73, .invokevirtual 358, 3), (76, .iconst 1, 1), (77, .if_icmp .ne 27, 3), (80, .aload_n 0, 1), (81, .iload_n 1, 1), (82, .iload_n 2, 1), (83, .invokevirtual 273, 3), (86, .ifCond .eq 12, 3), (89, .aload_n 0, 1), (90, .getfield 33, 3), (93, .bipush 115, 2), (95, .iaload, 1), (96, .istore 4, 2), (98, .iinc 5 1, 3), (101, .goto (-41), 3), (104, .aload_n 0, 1), (105, .invokevirtual 377, 3), (108, .iload 4, 2), (110, .ireturn, 1)]
def mc_262 : List (Nat × Instr × Nat) := [(0, .aload_n 0, 1), (1, .aload_n 0, 1), (2, .getfield 396, 3), (5, .ldc_w 399, 3), (8, .imul, 1), (9, .sipush 12345, 3), (12, .iadd, 1), (13, .putfield 396, 3), (16, .aload_n 0, 1), (17, .getfield 396, 3), (20, .bipush 8, 2), (22, .iushr, 1), (23, .iload_n 1, 1), (24, .irem, 1), (25, .ireturn, 1)]
def mc_263 : List (Nat × Instr × Nat) := [(0, .aload_n 0, 1), (1, .iload_n 2, 1), (2, .putfield 396, 3), (5, .iconst 0, 1), (6, .istore_n 3, 1), (7, .iload_n 3, 1), (8, .iload_n 1, 1), (9, .if_icmp .ge 147, 3), (12, .aload_n 0, 1), (13, .getfield 33, 3), (16, .bipush 115, 2), (18, .iaload, 1), (19, .sipush 400, 3), (22, .if_icmp .ge 134, 3), (25, .aload_n 0, 1), (26, .iconst 4, 1), (27, .invokevirtual 400, 3), (30, .ifCond .ne 30, 3), (33, .aload_n 0, 1), (34, .aload_n 0, 1), (35, .getfield 33, 3), (38, .iconst 0, 1), (39, .iaload, 1), (40, .invokevirtual 400, 3), (43, .istore 4, 2), (45, .aload_n 0, 1), (46, .iload 4, 2), (48, .invokevirtual 352, 3), (51, .ifCond .ne 9, 3), (54, .aload_n 0, 1), (55, .iload 4, 2), (57, .invokevirtual 355, 3), (60, .iconst 0, 1), (61, .istore 4, 2), (63, .iload 4, 2), (65, .aload_n 0, 1), (66, .getfield 33, 3), (69, .iconst 4, 1), (70, .iaload, 1), (71, .if_icmp .ge 75, 3), (74, .aload_n 0, 1), (75, .bipush 20, 2), (77, .invokevirtual 400, 3), (80, .ifCond .ne 21, 3), (83, .aload_n 0, 1), (84, .iload 4, 2), (86, .invokevirtual 340, 3), (89, .ifCond .ne 51, 3), (92, .aload_n 0, 1), (93, .iload 4, 2), (95, .invokevirtual 343, 3), (98, .goto 42, 3), (101, .aload_n 0, 1), (102, .iconst 3, 1), (103, .invokevirtual 400, 3), (106, .ifCond .ne 34, 3), (109, .aload_n 0, 1), (110, .aload_n 0, 1), (111, .getfield 33, 3), (114, .iconst 0, 1), (115, .iaload, 1), (116, .invokevirtual 400, 3), (119, .istore 5, 2), (121, .aload_n 0, 1), (122, .iload 4, 2), (124, .iload 5, 2), (126, .invokevirtual 316, 3), (129, .ifCond .ne 11, 3), (132, .aload_n 0, 1), (133, .iload 4, 2), (135, .iload 5, 2), (137, .invokevirtual 322, 3), (140, .iinc 4 1, 3), (143, .goto (-80), 3), (146, .aload_n 0, 1), (147, .invokevirtual 313, 3), (150, .iinc 3 1, 3), (153, .goto (-146), 3), (156, .iload_n 3, 1), (157, .ireturn, 1)]
def mc_264 : List (Nat × Instr × Nat) := [(0, .aload_n 0, 1), (1, .iconst 0, 1), (2, .putfield 1, 3), (5, .iload_n 1, 1), (6, .iconst 1, 1), (7, .bipush 60, 2), (9, .invokestatic 184, 3), (12, .ifCond .eq 12, 3), (15, .aload_n 0, 1), (16, .getfield 33, 3), (19, .iconst 0, 1), (20, .iaload, 1), (21, .ifCond .ne 5, 3), (24, .iconst (-1), 1), (25, .ireturn, 1), (26, .aload_n 0, 1), (27, .getfield 33, 3), (30, .bipush 115, 2), (32, .iaload, 1), (33, .sipush 400, 3), (36, .if_icmp .ge 7, 3), (39, .aload_n 0, 1), (40, .invokevirtual 319, 3), (43, .aload_n 0, 1), (44, .iload_n 1, 1), (45, .iload_n 2, 1), (46, .invokevirtual 403, 3), (49, .ireturn, 1)]
def mc_265 : List (Nat × Instr × Nat) := [(0, .aload_n 0, 1), (1, .iconst 0, 1), (2, .putfield 1, 3), (5, .aload_n 0, 1), (6, .iload_n 1, 1), (7, .invokevirtual 286, 3), (10, .ifCond .eq 13, 3), (13, .iload_n 2, 1), (14, .iconst 1, 1), (15, .bipush 30, 2), (17, .invokestatic 184, 3), (20, .ifCond .ne 5, 3), (23, .iconst (-1), 1), (24, .ireturn, 1), (25, .aload_n 0, 1), (26, .invokevirtual 371, 3), (29, .iconst 0, 1), (30, .istore 4, 2), (32, .iconst 0, 1), (33, .istore 5, 2), (35, .iload 5, 2), (37, .iload_n 2, 1), (38, .if_icmp .ge 42, 3), (41, .aload_n 0, 1), (42, .bipush 20, 2), (44, .iload_n 3, 1), (45, .iload 5, 2), (47, .iadd, 1), (48, .invokevirtual 403, 3), (51, .pop, 1), (52, .iload 4, 2), (54, .aload_n 0, 1), (55, .iload_n 1, 1), (56, .invokevirtual 276, 3), (59, .ifCond .ne 7, 3), (62, .iconst 1, 1), (63, .goto 4, 3), (66, .iconst 0, 1), (67, .iadd, 1), (68, .istore 4, 2), (70, .aload_n 0, 1), (71, .invokevirtual 377, 3), (74, .iinc 5 1, 3), (77, .goto (-42), 3), (80, .iload 4, 2), (82, .ireturn, 1)]
def mc_266 : List (Nat × Instr × Nat) := [(0, .iconst 3, 1), (1, .aload_n 0, 1), (2, .getfield 406, 3), (5, .imul, 1), (6, .istore_n 1, 1), (7, .aload_n 0, 1), (8, .ldc2_w 112, 3), (11, .invokevirtual 206, 3), (14, .ifCond .eq 7, 3), (17, .iconst 5, 1), (18, .goto 34, 3), (21, .aload_n 0, 1), (22, .ldc2_w 114, 3), (25, .invokevirtual 206, 3), (28, .ifCond .eq 8, 3), (31, .bipush 6, 2), (33, .goto 19, 3), (36, .aload_n 0, 1), (37, .ldc2_w 116, 3), (40, .invokevirtual 206, 3), (43, .ifCond .eq 8, 3), (46, .bipush 7, 2), (48, .goto 4, 3), (51, .iconst (-1), 1), (52, .istore_n 2, 1), (53, .iload_n 2, 1), (54, .ifCond .lt 112, 3), (57, .aload_n 0, 1), (58, .getfield 406, 3), (61, .bipush 40, 2), (63, .if_icmp .ne 9, 3), (66, .aload_n 0, 1), (67, .iconst 4, 1), (68, .invokevirtual 178, 3), (71, .ireturn, 1), (72, .aload_n 0, 1), (73, .getfield 40, 3), (76, .iload_n 1, 1), (77, .iload_n 2, 1), (78, .iastore, 1), (79, .aload_n 0, 1), (80, .invokevirtual 181, 3), (83, .iload_n 2, 1), (84, .bipush 7, 2), (86, .if_icmp .ne 29, 3), (89, .aload_n 0, 1), (90, .iconst 1, 1), (91, .bipush 60, 2), (93, .invokevirtual 191, 3), (96, .ifCond .ne 5, 3), (99, .iconst 0, 1), (100, .ireturn, 1), (101, .aload_n 0, 1), (102, .getfield 40, 3), (105, .iload_n 1, 1), (106, .iconst 1, 1), (107, .iadd, 1), (108, .aload_n 0, 1), (109, .getfield 188, 3), (112, .iastore, 1), (113, .iconst 1, 1), (114, .ireturn, 1), (115, .iload_n 2, 1), (116, .iconst 5, 1), (117, .if_icmp .ne 23, 3), (120, .aload_n 0, 1), (121, .iload_n 1, 1), (122, .iconst 1, 1), (123, .iadd, 1), (124, .bipush 15, 2), (126, .aload_n 0, 1), (127, .getfield 33, 3), (130, .iconst 3, 1), (131, .iaload, 1), (132, .invokevirtual 409, 3), (135, .ifCond .ne 5, 3), (138, .iconst 0, 1), (139, .ireturn, 1), (140, .aload_n 0, 1), (141, .iload_n 2, 1), (142, .iconst 5, 1), (143, .if_icmp .ne 9, 3), (146, .iload_n 1, 1), (147, .iconst 2, 1), (148, .iadd, 1), (149, .goto 6, 3), (152, .iload_n 1, 1), (153, .iconst 1, 1), (154, .iadd, 1), (155, .iconst 0, 1), (156, .aload_n 0, 1), (157, .getfield 33, 3), (160, .iconst 0, 1), (161, .iaload, 1), (162, .invokevirtual 409, 3), (165, .ireturn, 1), (166, .aload_n 0, 1), (167, .bipush 21, 2), (169, .aload_n 0, 1), (170, .getfield 33, 3), (173, .iconst 4, 1), (174, .iaload, 1), (175, .invokevirtual 203, 3), (178, .ifCond .ne 5, 3), (181, .iconst 0, 1), (182, .ireturn, 1), (183, .aload_n 0, 1), (184, .getfield 406, 3), (187, .bipush 40, 2), (189, .if_icmp .ne 9, 3), (192, .aload_n 0, 1), (193, .iconst 4, 1), (194, .invokevirtual 178, 3), (197, .ireturn, 1), (198, .aload_n 0, 1), (199, .getfield 40, 3), (202, .iload_n 1, 1), (203, .iconst 1, 1), (204, .iadd, 1), (205, .aload_n 0, 1), (206, .getfield 188, 3), (209, .iastore, 1), (210, .aload_n 0, 1), (211, .invokevirtual 181, 3), (214, .aload_n 0, 1), (215, .ldc2_w 102, 3), (218, .invokevirtual 206, 3), (221, .ifCond .eq 7, 3), (224, .iconst 0, 1), (225, .goto 60, 3), (228, .aload_n 0, 1), (229, .ldc2_w 104, 3), (232, .invokevirtual 206, 3), (235, .ifCond .eq 7, 3), (238, .iconst 1, 1), (239, .goto 46, 3), (242, .aload_n 0, 1), (243, .ldc2_w 106, 3), (246, .invokevirtual 206, 3), (249, .ifCond .eq 7, 3), (252, .iconst 2, 1), (253, .goto 32, 3), (256, .aload_n 0, 1), (257, .ldc2_w 108, 3), (260, .invokevirtual 206, 3), (263, .ifCond .eq 7, 3), (266, .iconst 3, 1), (267, .goto 18, 3), (270, .aload_n 0, 1), (271, .ldc2_w 110, 3), (274, .invokevirtual 206, 3), (277, .ifCond .eq 7, 3), (280, .iconst 4, 1), (281, .goto 4, 3), (284, .iconst (-1), 1), (285, .istore_n 3, 1), (286, .iload_n 3, 1), (287, .ifCond .ge 9, 3), (290, .aload_n 0, 1), (291, .iconst 1, 1), (292, .invokevirtual 178, 3), (295, .ireturn, 1), (296, .aload_n 0, 1), (297, .getfield 40, 3), (300, .iload_n 1, 1), (301, .iload_n 3, 1), (302, .iastore, 1), (303, .aload_n 0, 1), (304, .invokevirtual 181, 3), (307, .iload_n 3, 1), (308, .iconst 1, 1), (309, .if_icmp .gt 37, 3), (312, .aload_n 0, 1), (313, .iload_n 1, 1), (314, .iconst 2, 1), (315, .iadd, 1), (316, .iload_n 3, 1), (317, .ifCond .ne 7, 3), (320, .iconst 0, 1), (321, .goto 5, 3), (324, .bipush 10, 2), (326, .aload_n 0, 1), (327, .getfield 33, 3), (330, .iload_n 3, 1), (331, .ifCond .ne 7, 3), (334, .iconst 0, 1), (335, .goto 4, 3), (338, .iconst 2, 1), (339, .iaload, 1), (340, .invokevirtual 409, 3), (343, .ifCond .eq 7, 3), (346, .iconst 1, 1), (347, .goto 4, 3), (350, .iconst 0, 1), (351, .ireturn, 1)]
def mc_267 : List (Nat × Instr × Nat) := [(0, .aload_n 0, 1), (1, .iload_n 2, 1), (2, .iload_n 3, 1), (3, .invokevirtual 220, 3), (6, .ifCond .ne 5, 3), (9, .iconst 0, 1), (10, .ireturn, 1), (11, .aload_n 0, 1), (12, .getfield 40, 3), (15, .iload_n 1, 1), (16, .aload_n 0, 1), (17, .getfield 188, 3), (20, .iastore, 1), (21, .iconst 1, 1), (22, .ireturn, 1)]
def mc_268 : List (Nat × Instr × Nat) := [(0, .iload_n 1, 1), (1, .tableswitch 90 0 6 #[43, 50, 57, 64, 71, 77, 84], 43), (44, .aload_n 0, 1), (45, .iload_n 2, 1), (46, .iload_n 3, 1), (47, .invokevirtual 316, 3), (50, .ireturn, 1), (51, .aload_n 0, 1), (52, .iload_n 2, 1), (53, .iload_n 3, 1), (54, .invokevirtual 328, 3), (57, .ireturn, 1), (58, .aload_n 0, 1), (59, .iload_n 2, 1), (60, .iconst 1, 1), (61, .invokevirtual 334, 3), (64, .ireturn, 1), (65, .aload_n 0, 1), (66, .iload_n 2, 1), (67, .iconst 0, 1), (68, .invokevirtual 334, 3), (71, .ireturn, 1), (72, .aload_n 0, 1), (73, .iload_n 2, 1), (74, .invokevirtual 340, 3), (77, .ireturn, 1), (78, .aload_n 0, 1), (79, .iload_n 2, 1), (80, .iload_n 3, 1), (81, .invokevirtual 346, 3), (84, .ireturn, 1), (85, .aload_n 0, 1), (86, .iload_n 2, 1), (87, .invokevirtual 352, 3), (90, .ireturn, 1), (91, .aload_n 0, 1), (92, .getfield 33, 3), (95, .bipush 115, 2), (97, .iaload, 1), (98, .iload_n 2, 1), (99, .iadd, 1), (100, .sipush 400, 3), (103, .if_icmp .le 7, 3), (106, .iconst 1, 1), (107, .goto 4, 3), (110, .iconst 0, 1), (111, .ireturn, 1)]
def mc_269 : List (Nat × Instr × Nat) := [(0, .iload_n 1, 1), (1, .tableswitch 103 0 6 #[43, 52, 60, 69, 78, 86, 95], 43), (44, .aload_n 0, 1), (45, .iload_n 2, 1), (46, .iload_n 3, 1), (47, .invokevirtual 322, 3), (50, .goto 60, 3), (53, .aload_n 0, 1), (54, .iload_n 2, 1), (55, .invokevirtual 331, 3), (58, .goto 52, 3), (61, .aload_n 0, 1), (62, .iload_n 2, 1), (63, .iconst 1, 1), (64, .invokevirtual 337, 3), (67, .goto 43, 3), (70, .aload_n 0, 1), (71, .iload_n 2, 1), (72, .iconst 0, 1), (73, .invokevirtual 337, 3), (76, .goto 34, 3), (79, .aload_n 0, 1), (80, .iload_n 2, 1), (81, .invokevirtual 343, 3), (84, .goto 26, 3), (87, .aload_n 0, 1), (88, .iload_n 2, 1), (89, .iload_n 3, 1), (90, .invokevirtual 349, 3), (93, .goto 17, 3), (96, .aload_n 0, 1), (97, .iload_n 2, 1), (98, .invokevirtual 355, 3), (101, .goto 9, 3), (104, .aload_n 0, 1), (105, .iload_n 2, 1), (106, .invokevirtual 358, 3), (109, .pop, 1), (110, .return_, 1)]
def mc_270 : List (Nat × Instr × Nat) := [(0, .aload_n 0, 1), (1, .iconst 0, 1), (2, .putfield 1, 3), (5, .iload_n 1, 1), (6, .iconst 0, 1), (7, .iconst 1, 1), (8, .invokestatic 184, 3), (11, .ifCond .ne 7, 3), (14, .sipush (-1000), 3), (17, .ireturn, 1), (18, .aload_n 0, 1), (19, .sipush 400, 3), (22, .invokevirtual 232, 3), (25, .aload_n 0, 1), (26, .iconst 0, 1), (27, .putfield 169, 3), (30, .aload_n 0, 1), (31, .iconst 0, 1), (32, .putfield 406, 3), (35, .aload_n 0, 1), (36, .invokevirtual 181, 3), (39, .aload_n 0, 1), (40, .getfield 152, 3), (43, .ifCond .eq 40, 3), (46, .aload_n 0, 1), (47, .invokevirtual 412, 3), (50, .ifCond .eq 12, 3), (53, .aload_n 0, 1), (54, .bipush 59, 2), (56, .invokevirtual 241, 3), (59, .ifCond .ne 11, 3), (62, .bipush (-2), 2), (64, .aload_n 0, 1), (65, .getfield 172, 3), (68, .isub, 1), (69, .ireturn, 1), (70, .aload_n 0, 1), (71, .dup, 1), (72, .getfield 406, 3), (75, .iconst 1, 1), (76, .iadd, 1), (77, .putfield 406, 3), (80, .goto (-41), 3), (83, .aload_n 0, 1), (84, .invokevirtual 371, 3), (87, .iconst 0, 1), (88, .istore_n 2, 1), (89, .iload_n 2, 1), (90, .iconst 4, 1), (91, .if_icmp .ge 16, 3), (94, .aload_n 0, 1), (95, .getfield 65, 3), (98, .iload_n 2, 1), (99, .iconst 0, 1), (100, .iastore, 1), (101, .iinc 2 1, 3), (104, .goto (-15), 3), (107, .iconst (-1), 1), (108, .istore_n 2, 1), (109, .iconst 0, 1), (110, .istore_n 3, 1), (111, .iload_n 3, 1), (112, .aload_n 0, 1), (113, .getfield 406, 3), (116, .if_icmp .ge 117, 3), (119, .iload_n 2, 1), (120, .ifCond .ge 113, 3), (123, .iconst 3, 1), (124, .iload_n 3, 1), (125, .imul, 1), (126, .istore 4, 2), (128, .aload_n 0, 1), (129, .aload_n 0, 1), (130, .getfield 40, 3), (133, .iload 4, 2), (135, .iaload, 1), (136, .aload_n 0, 1), (137, .getfield 40, 3), (140, .iload 4, 2), (142, .iconst 1, 1), (143, .iadd, 1), (144, .iaload, 1), (145, .aload_n 0, 1), (146, .getfield 40, 3), (149, .iload 4, 2), (151, .iconst 2, 1), (152, .iadd, 1), (153, .iaload, 1), (154, .invokevirtual 415, 3), (157, .istore 5, 2), (159, .iload 5, 2), (161, .ifCond .le 27, 3), (164, .aload_n 0, 1), (165, .getfield 65, 3), (168, .iconst 0, 1), (169, .bipush 10, 2), (171, .aload_n 0, 1), (172, .getfield 40, 3), (175, .iload 4, 2), (177, .iaload, 1), (178, .imul, 1), (179, .iload 5, 2), (181, .iadd, 1), (182, .iastore, 1), (183, .iload_n 3, 1), (184, .istore_n 2, 1), (185, .goto 42, 3), (188, .aload_n 0, 1), (189, .aload_n 0, 1), (190, .getfield 40, 3), (193, .iload 4, 2), (195, .iaload, 1), (196, .aload_n 0, 1), (197, .getfield 40, 3), (200, .iload 4, 2), (202, .iconst 1, 1), (203, .iadd, 1), (204, .iaload, 1), (205, .aload_n 0, 1), (206, .getfield 40, 3), (209, .iload 4, 2), (211, .iconst 2, 1), (212, .iadd, 1), (213, .iaload, 1), (214, .invokevirtual 418, 3), (217, .aload_n 0, 1), (218, .getfield 65, 3), (221, .iconst 1, 1), (222, .dup2, 1), (223, .iaload, 1), (224, .iconst 1, 1), (225, .iadd, 1), (226, .iastore, 1), (227, .iinc 3 1, 3), (230, .goto (-119), 3), (233, .aload_n 0, 1), (234, .getfield 65, 3), (237, .iconst 2, 1), (238, .aload_n 0, 1), (239, .getfield 33, 3), (242, .bipush 115, 2), (244, .iaload, 1), (245, .iastore, 1), (246, .aload_n 0, 1), (247, .getfield 65, 3), (250, .iconst 3, 1), (251, .aload_n 0, 1), (252, .invokevirtual 298, 3), (255, .iastore, 1), (256, .aload_n 0, 1), (257, .iconst 1, 1), (258, .putfield 421, 3), (261, .iload_n 1, 1), (262, .iconst 1, 1), (263, .if_icmp .ne 52, 3), (266, .aload_n 0, 1), (267, .getfield 65, 3), (270, .iconst 1, 1), (271, .iaload, 1), (272, .ifCond .le 43, 3), (275, .aload_n 0, 1), (276, .invokevirtual 319, 3), (279, .iconst 0, 1), (280, .istore_n 3, 1), (281, .iload_n 3, 1), (282, .bipush 115, 2), (284, .if_icmp .ge 31, 3), (287, .aload_n 0, 1), (288, .getfield 50, 3), (291, .bipush 115, 2), (293, .aload_n 0, 1), (294, .getfield 247, 3), (297, .iconst 1, 1), (298, .isub, 1), (299, .imul, 1), (300, .iload_n 3, 1), (301, .iadd, 1), (302, .aload_n 0, 1), (303, .getfield 53, 3), (306, .iload_n 3, 1), (307, .iaload, 1), (308, .iastore, 1), (309, .iinc 3 1, 3), (312, .goto (-31), 3), (315, .iload_n 1, 1), (316, .ifCond .ne 7, 3), (319, .aload_n 0, 1), (320, .invokevirtual 377, 3), (323, .iload_n 2, 1), (324, .ireturn, 1)]
def mc_271 : List (Nat × Instr × Nat) := [(0, .aload_n 0, 1), (1, .iconst 0, 1), (2, .putfield 1, 3), (5, .aload_n 0, 1), (6, .getfield 421, 3), (9, .ifCond .eq 21, 3), (12, .iload_n 1, 1), (13, .iconst 0, 1), (14, .iconst 3, 1), (15, .invokestatic 184, 3), (18, .ifCond .eq 12, 3), (21, .aload_n 0, 1), (22, .getfield 65, 3), (25, .iload_n 1, 1), (26, .iaload, 1), (27, .goto 4, 3), (30, .iconst (-1), 1), (31, .ireturn, 1)]
def mc_272 : List (Nat × Instr × Nat) := [(0, .aload_n 0, 1), (1, .getfield 40, 3), (4, .iconst 3, 1), (5, .aload_n 0, 1), (6, .getfield 424, 3), (9, .imul, 1), (10, .iload_n 1, 1), (11, .iastore, 1), (12, .aload_n 0, 1), (13, .getfield 40, 3), (16, .iconst 3, 1), (17, .aload_n 0, 1), (18, .getfield 424, 3), (21, .imul, 1), (22, .iconst 1, 1), (23, .iadd, 1), (24, .iload_n 2, 1), (25, .iastore, 1), (26, .aload_n 0, 1), (27, .getfield 40, 3), (30, .iconst 3, 1), (31, .aload_n 0, 1), (32, .getfield 424, 3), (35, .imul, 1), (36, .iconst 2, 1), (37, .iadd, 1), (38, .iload_n 3, 1), (39, .iastore, 1), (40, .aload_n 0, 1), (41, .dup, 1), (42, .getfield 424, 3), (45, .iconst 1, 1), (46, .iadd, 1), (47, .putfield 424, 3), (50, .return_, 1)]
def mc_273 : List (Nat × Instr × Nat) := [(0, .aload_n 0, 1), (1, .getfield 427, 3), (4, .ifCond .le 69, 3), (7, .aload_n 0, 1), (8, .getfield 68, 3), (11, .aload_n 0, 1), (12, .getfield 427, 3), (15, .iconst 1, 1), (16, .isub, 1), (17, .iaload, 1), (18, .bipush 21, 2), (20, .if_icmp .eq 25, 3), (23, .aload_n 0, 1), (24, .getfield 68, 3), (27, .aload_n 0, 1), (28, .getfield 427, 3), (31, .iconst 1, 1), (32, .isub, 1), (33, .iaload, 1), (34, .bipush 22, 2), (36, .if_icmp .ne 37, 3), (39, .iload_n 1, 1), (40, .bipush 22, 2), (42, .if_icmp .ne 31, 3), (45, .aload_n 0, 1), (46, .dup, 1), (47, .getfield 427, 3), (50, .iconst 1, 1), (51, .isub, 1), (52, .putfield 427, 3), (55, .aload_n 0, 1), (56, .aload_n 0, 1), (57, .getfield 68, 3), (60, .aload_n 0, 1), (61, .getfield 427, 3), (64, .iaload, 1), (65, .iconst 0, 1), (66, .iconst 0, 1), (67, .invokevirtual 430, 3), (70, .goto (-70), 3), (73, .return_, 1)]
def mc_274 : List (Nat × Instr × Nat) := [(0, .aload_n 0, 1), (1, .getfield 427, 3), (4, .ifCond .le 50, 3), (7, .aload_n 0, 1), (8, .getfield 68, 3), (11, .aload_n 0, 1), (12, .getfield 427, 3), (15, .iconst 1, 1), (16, .isub, 1), (17, .iaload, 1), (18, .bipush 20, 2), (20, .if_icmp .ne 34, 3), (23, .aload_n 0, 1), (24, .dup, 1), (25, .getfield 427, 3), (28, .iconst 1, 1), (29, .isub, 1), (30, .putfield 427, 3), (33, .aload_n 0, 1), (34, .dup, 1), (35, .getfield 433, 3), (38, .iconst 1, 1), (39, .isub, 1), (40, .putfield 433, 3), (43, .aload_n 0, 1), (44, .bipush 20, 2), (46, .iconst 0, 1), (47, .iconst 0, 1), (48, .invokevirtual 430, 3), (51, .goto (-51), 3), (54, .return_, 1)]
def mc_275 : List (Nat × Instr × Nat) := [(0, .aload_n 0, 1), (1, .ldc2_w 124, 3), (4, .invokevirtual 206, 3), (7, .ifCond .eq 7, 3), (10, .iconst 0, 1), (11, .goto 119, 3), (14, .aload_n 0, 1), (15, .ldc2_w 126, 3), (18, .invokevirtual 206, 3), (21, .ifCond .eq 7, 3), (24, .iconst 1, 1), (25, .goto 105, 3), (28, .aload_n 0, 1), (29, .ldc2_w 128, 3), (32, .invokevirtual 206, 3), (35, .ifCond .eq 7, 3), (38, .iconst 2, 1), (39, .goto 91, 3), (42, .aload_n 0, 1), (43, .ldc2_w 130, 3), (46, .invokevirtual 206, 3), (49, .ifCond .eq 7, 3), (52, .iconst 3, 1), (53, .goto 77, 3), (56, .aload_n 0, 1), (57, .ldc2_w 132, 3), (60, .invokevirtual 206, 3), (63, .ifCond .eq 7, 3), (66, .iconst 4, 1), (67, .goto 63, 3), (70, .aload_n 0, 1), (71, .ldc2_w 134, 3), (74, .invokevirtual 206, 3), (77, .ifCond .eq 7, 3), (80, .iconst 5, 1), (81, .goto 49, 3), (84, .aload_n 0, 1), (85, .ldc2_w 136, 3), (88, .invokevirtual 206, 3), (91, .ifCond .eq 8, 3), (94, .bipush 6, 2), (96, .goto 34, 3), (99, .aload_n 0, 1), (100, .ldc2_w 138, 3), (103, .invokevirtual 206, 3), (106, .ifCond .eq 8, 3), (109, .bipush 7, 2), (111, .goto 19, 3), (114, .aload_n 0, 1), (115, .ldc2_w 140, 3), (118, .invokevirtual 206, 3), (121, .ifCond .eq 8, 3), (124, .bipush 8, 2), (126, .goto 4, 3), (129, .iconst (-1), 1), (130, .ireturn, 1)]
def mc_276 : List (Nat × Instr × Nat) := [(0, .aload_n 0, 1), (1, .ldc2_w 122, 3), (4, .invokevirtual 206, 3), (7, .istore_n 1, 1), (8, .aload_n 0, 1), (9, .bipush 40, 2), (11, .invokevirtual 175, 3), (14, .istore_n 2, 1), (15, .aload_n 0, 1), (16, .invokevirtual 436, 3), (19, .istore_n 3, 1), (20, .iload_n 1, 1), (21, .ifCond .ne 17, 3), (24, .iload_n 2, 1), (25, .ifCond .ne 13, 3), (28, .iload_n 3, 1), (29, .ifCond .ge 9, 3), (32, .aload_n 0, 1), (33, .iconst 1, 1), (34, .invokevirtual 178, 3), (37, .ireturn, 1), (38, .aload_n 0, 1), (39, .getfield 439, 3), (42, .bipush 20, 2), (44, .if_icmp .eq 12, 3), (47, .aload_n 0, 1), (48, .getfield 433, 3), (51, .bipush 8, 2), (53, .if_icmp .le 9, 3), (56, .aload_n 0, 1), (57, .iconst 4, 1), (58, .invokevirtual 178, 3), (61, .ireturn, 1), (62, .aload_n 0, 1), (63, .dup, 1), (64, .getfield 439, 3), (67, .iconst 1, 1), (68, .iadd, 1), (69, .putfield 439, 3), (72, .aload_n 0, 1), (73, .invokevirtual 181, 3), (76, .iload_n 1, 1), (77, .ifCond .ne 7, 3), (80, .iload_n 2, 1), (81, .ifCond .eq 45, 3), (84, .aload_n 0, 1), (85, .getfield 68, 3), (88, .aload_n 0, 1), (89, .getfield 427, 3), (92, .iload_n 1, 1), (93, .ifCond .eq 8, 3), (96, .bipush 20, 2), (98, .goto 5, 3), (101, .bipush 23, 2), (103, .iastore, 1), (104, .aload_n 0, 1), (105, .dup, 1), (106, .getfield 427, 3), (109, .iconst 1, 1), (110, .iadd, 1), (111, .putfield 427, 3), (114, .aload_n 0, 1), (115, .dup, 1), (116, .getfield 433, 3), (119, .iconst 1, 1), (120, .iadd, 1), (121, .putfield 433, 3), (124, .iconst 1, 1), (125, .ireturn, 1), (126, .aload_n 0, 1), (127, .iconst 1, 1), (128, .putfield 442, 3), (131, .iload_n 3, 1), (132, .iconst 2, 1), (133, .if_icmp .ge 12, 3), (136, .aload_n 0, 1), (137, .iload_n 3, 1), (138, .iconst 0, 1), (139, .iconst 0, 1), (140, .invokevirtual 430, 3), (143, .iconst 1, 1), (144, .ireturn, 1), (145, .iload_n 3, 1), (146, .iconst 5, 1), (147, .if_icmp .ge 94, 3), (150, .aload_n 0, 1), (151, .invokevirtual 195, 3), (154, .ifCond .ne 9, 3), (157, .aload_n 0, 1), (158, .iconst 1, 1), (159, .invokevirtual 178, 3), (162, .ireturn, 1), (163, .iload_n 3, 1), (164, .iconst 2, 1), (165, .if_icmp .ne 18, 3), (168, .aload_n 0, 1), (169, .bipush 15, 2), (171, .aload_n 0, 1), (172, .getfield 33, 3), (175, .iconst 3, 1), (176, .iaload, 1), (177, .invokevirtual 199, 3), (180, .goto 34, 3), (183, .iload_n 3, 1), (184, .iconst 3, 1), (185, .if_icmp .ne 18, 3), (188, .aload_n 0, 1), (189, .bipush 10, 2), (191, .aload_n 0, 1), (192, .getfield 33, 3), (195, .iconst 2, 1), (196, .iaload, 1), (197, .invokevirtual 199, 3), (200, .goto 14, 3), (203, .aload_n 0, 1), (204, .iconst 0, 1), (205, .aload_n 0, 1), (206, .getfield 33, 3), (209, .iconst 0, 1), (210, .iaload, 1), (211, .invokevirtual 199, 3), (214, .istore 4, 2), (216, .iload 4, 2), (218, .ifCond .ge 9, 3), (221, .aload_n 0, 1), (222, .iconst 3, 1), (223, .invokevirtual 178, 3), (226, .ireturn, 1), (227, .aload_n 0, 1), (228, .iload_n 3, 1), (229, .iconst 0, 1), (230, .iload 4, 2), (232, .invokevirtual 430, 3), (235, .aload_n 0, 1), (236, .invokevirtual 181, 3), (239, .iconst 1, 1), (240, .ireturn, 1), (241, .aload_n 0, 1), (242, .getfield 152, 3), (245, .iconst 3, 1), (246, .if_icmp .ne 21, 3), (249, .aload_n 0, 1), (250, .getfield 162, 3), (253, .bipush 60, 2), (255, .if_icmp .lt 12, 3), (258, .aload_n 0, 1), (259, .getfield 162, 3), (262, .bipush 62, 2), (264, .if_icmp .le 9, 3), (267, .aload_n 0, 1), (268, .iconst 1, 1), (269, .invokevirtual 178, 3), (272, .ireturn, 1), (273, .aload_n 0, 1), (274, .getfield 162, 3), (277, .istore 4, 2), (279, .aload_n 0, 1), (280, .invokevirtual 181, 3), (283, .aload_n 0, 1), (284, .getfield 152, 3), (287, .iconst 2, 1), (288, .if_icmp .eq 9, 3), (291, .aload_n 0, 1), (292, .iconst 1, 1), (293, .invokevirtual 178, 3), (296, .ireturn, 1), (297, .aload_n 0, 1), (298, .iload_n 3, 1), (299, .iload 4, 2), (301, .aload_n 0, 1), (302, .getfield 162, 3), (305, .invokevirtual 430, 3), (308, .aload_n 0, 1), (309, .invokevirtual 181, 3), (312, .iconst 1, 1), (313, .ireturn, 1)]
def mc_277 : List (Nat × Instr × Nat) := [(0, .aload_n 0, 1), (1, .invokevirtual 445, 3), (4, .aload_n 0, 1), (5, .ldc2_w 120, 3), (8, .invokevirtual 206, 3), (11, .ifCond .ne 13, 3), (14, .aload_n 0, 1), (15, .ldc2_w 118, 3), (18, .invokevirtual 206, 3), (21, .ifCond .eq 71, 3), (24, .aload_n 0, 1), (25, .aload_n 0, 1), (26, .ldc2_w 120, 3), (29, .invokevirtual 206, 3), (32, .ifCond .eq 8, 3), (35, .bipush 21, 2), (37, .goto 5, 3), (40, .bipush 22, 2), (42, .invokevirtual 448, 3), (45, .aload_n 0, 1), (46, .getfield 68, 3), (49, .aload_n 0, 1), (50, .getfield 427, 3), (53, .aload_n 0, 1), (54, .ldc2_w 120, 3), (57, .invokevirtual 206, 3), (60, .ifCond .eq 8, 3), (63, .bipush 21, 2), (65, .goto 5, 3), (68, .bipush 22, 2), (70, .iastore, 1), (71, .aload_n 0, 1), (72, .dup, 1), (73, .getfield 427, 3), (76, .iconst 1, 1), (77, .iadd, 1), (78, .putfield 427, 3), (81, .aload_n 0, 1), (82, .iconst 0, 1), (83, .putfield 442, 3), (86, .aload_n 0, 1), (87, .invokevirtual 181, 3), (90, .iconst 1, 1), (91, .ireturn, 1), (92, .aload_n 0, 1), (93, .bipush 22, 2), (95, .invokevirtual 448, 3), (98, .aload_n 0, 1), (99, .bipush 41, 2), (101, .invokevirtual 175, 3), (104, .ifCond .eq 10, 3), (107, .aload_n 0, 1), (108, .getfield 427, 3), (111, .ifCond .ne 9, 3), (114, .aload_n 0, 1), (115, .iconst 1, 1), (116, .invokevirtual 178, 3), (119, .ireturn, 1), (120, .aload_n 0, 1), (121, .dup, 1), (122, .getfield 427, 3), (125, .iconst 1, 1), (126, .isub, 1), (127, .putfield 427, 3), (130, .aload_n 0, 1), (131, .dup, 1), (132, .getfield 433, 3), (135, .iconst 1, 1), (136, .isub, 1), (137, .putfield 433, 3), (140, .aload_n 0, 1), (141, .invokevirtual 181, 3), (144, .iconst 1, 1), (145, .ireturn, 1)]
def mc_278 : List (Nat × Instr × Nat) := [(0, .aload_n 0, 1), (1, .iconst 0, 1), (2, .putfield 1, 3), (5, .aload_n 0, 1), (6, .sipush 200, 3), (9, .invokevirtual 232, 3), (12, .aload_n 0, 1), (13, .iconst 0, 1), (14, .putfield 169, 3), (17, .aload_n 0, 1), (18, .iconst 0, 1), (19, .putfield 424, 3), (22, .aload_n 0, 1), (23, .iconst 0, 1), (24, .putfield 439, 3), (27, .aload_n 0, 1), (28, .iconst 0, 1), (29, .putfield 427, 3), (32, .aload_n 0, 1), (33, .iconst 1, 1), (34, .putfield 433, 3), (37, .aload_n 0, 1), (38, .iconst 0, 1), (39, .putfield 442, 3), (42, .aload_n 0, 1), (43, .invokevirtual 181, 3), (46, .iconst 1, 1), (47, .istore_n 1, 1), (48, .iload_n 1, 1), (49, .ifCond .eq 83, 3), (52, .aload_n 0, 1), (53, .getfield 442, 3), (56, .ifCond .eq 45, 3), (59, .aload_n 0, 1), (60, .getfield 152, 3), (63, .ifCond .ne 38, 3), (66, .aload_n 0, 1), (67, .invokevirtual 445, 3), (70, .aload_n 0, 1), (71, .bipush 22, 2), (73, .invokevirtual 448, 3), (76, .aload_n 0, 1), (77, .getfield 427, 3), (80, .ifCond .le 16, 3), (83, .aload_n 0, 1), (84, .iconst 1, 1), (85, .invokevirtual 178, 3), (88, .pop, 1), (89, .iconst (-1), 1), (90, .aload_n 0, 1), (91, .getfield 172, 3), (94, .isub, 1), (95, .ireturn, 1), (96, .iconst 0, 1), (97, .istore_n 1, 1), (98, .goto (-50), 3), (101, .aload_n 0, 1), (102, .getfield 442, 3), (105, .ifCond .eq 13, 3), (108, .aload_n 0, 1), (109, .invokevirtual 451, 3), (112, .ifCond .ne (-64), 3), (115, .goto 10, 3), (118, .aload_n 0, 1), (119, .invokevirtual 454, 3), (122, .ifCond .ne (-74), 3), (125, .iconst (-1), 1), (126, .aload_n 0, 1), (127, .getfield 172, 3), (130, .isub, 1), (131, .ireturn, 1), (132, .aload_n 0, 1), (133, .getfield 33, 3), (136, .sipush 230, 3), (139, .aload_n 0, 1), (140, .getfield 424, 3), (143, .iastore, 1), (144, .iconst 0, 1), (145, .istore_n 2, 1), (146, .iload_n 2, 1), (147, .iconst 3, 1), (148, .aload_n 0, 1), (149, .getfield 424, 3), (152, .imul, 1), (153, .if_icmp .ge 25, 3), (156, .aload_n 0, 1), (157, .getfield 33, 3), (160, .sipush 231, 3), (163, .iload_n 2, 1), (164, .iadd, 1), (165, .aload_n 0, 1), (166, .getfield 40, 3), (169, .iload_n 2, 1), (170, .iaload, 1), (171, .iastore, 1), (172, .iinc 2 1, 3), (175, .goto (-29), 3), (178, .aload_n 0, 1), (179, .getfield 439, 3), (182, .ireturn, 1)]
def mc_279 : List (Nat × Instr × Nat) := [(0, .iload_n 2, 1), (1, .tableswitch 125 0 4 #[35, 67, 81, 89, 105], 35), (36, .aload_n 0, 1), (37, .getfield 33, 3), (40, .bipush 119, 2), (42, .iaload, 1), (43, .iload_n 1, 1), (44, .invokestatic 229, 3), (47, .ifCond .ne 15, 3), (50, .aload_n 0, 1), (51, .getfield 33, 3), (54, .bipush 39, 2), (56, .iload_n 1, 1), (57, .iadd, 1), (58, .iaload, 1), (59, .ifCond .ne 7, 3), (62, .iconst 1, 1), (63, .goto 4, 3), (66, .iconst 0, 1), (67, .ireturn, 1), (68, .aload_n 0, 1), (69, .iload_n 1, 1), (70, .invokevirtual 276, 3), (73, .ifCond .ne 7, 3), (76, .iconst 1, 1), (77, .goto 4, 3), (80, .iconst 0, 1), (81, .ireturn, 1), (82, .aload_n 0, 1), (83, .iload_n 1, 1), (84, .iload 4, 2), (86, .invokevirtual 273, 3), (89, .ireturn, 1), (90, .aload_n 0, 1), (91, .iload_n 1, 1), (92, .iload 4, 2), (94, .invokevirtual 328, 3), (97, .ifCond .ne 7, 3), (100, .iconst 1, 1), (101, .goto 4, 3), (104, .iconst 0, 1), (105, .ireturn, 1), (106, .aload_n 0, 1), (107, .getfield 33, 3), (110, .bipush 120, 2), (112, .iload_n 1, 1), (113, .iadd, 1), (114, .iaload, 1), (115, .iload 4, 2), (117, .if_icmp .ne 7, 3), (120, .iconst 1, 1), (121, .goto 4, 3), (124, .iconst 0, 1), (125, .ireturn, 1), (126, .iload_n 2, 1), (127, .iconst 5, 1), (128, .if_icmp .ne 15, 3), (131, .aload_n 0, 1), (132, .getfield 33, 3), (135, .bipush 39, 2), (137, .iload_n 1, 1), (138, .iadd, 1), (139, .iaload, 1), (140, .goto 36, 3), (143, .iload_n 2, 1), (144, .bipush 6, 2), (146, .if_icmp .ne 11, 3), (149, .aload_n 0, 1), (150, .iload_n 1, 1), (151, .invokevirtual 307, 3), (154, .goto 22, 3), (157, .iload_n 2, 1), (158, .bipush 7, 2), (160, .if_icmp .ne 15, 3), (163, .aload_n 0, 1), (164, .getfield 33, 3), (167, .bipush 126, 2), (169, .iload_n 1, 1), (170, .iadd, 1), (171, .iaload, 1), (172, .goto 4, 3), (175, .iload_n 1, 1), (176, .istore 5, 2), (178, .iload_n 3, 1), (179, .bipush 60, 2), (181, .if_icmp .ne 18, 3), (184, .iload 5, 2), (186, .iload 4, 2), (188, .if_icmp .ge 7, 3), (191, .iconst 1, 1), (192, .goto 40, 3), (195, .iconst 0, 1), (196, .goto 36, 3), (199, .iload_n 3, 1), (200, .bipush 61, 2), (202, .if_icmp .ne 18, 3), (205, .iload 5, 2), (207, .iload 4, 2), (209, .if_icmp .ne 7, 3), (212, .iconst 1, 1), (213, .goto 19, 3), (216, .iconst 0, 1), (217, .goto 15, 3), (220, .iload 5, 2), (222, .iload 4, 2), (224, .if_icmp .le 7, 3), (227, .iconst 1, 1), (228, .goto 4, 3), (231, .iconst 0, 1), (232, .ireturn, 1)]
def mc_280 : List (Nat × Instr × Nat) := [(0, .iconst 0, 1), (1, .istore_n 2, 1), (2, .iconst 0, 1), (3, .istore_n 3, 1), (4, .iload_n 3, 1), (5, .aload_n 0, 1), (6, .getfield 33, 3), (9, .sipush 230, 3), (12, .iaload, 1), (13, .if_icmp .ge 199, 3), (16, .sipush 231, 3), (19, .iconst 3, 1), (20, .iload_n 3, 1), (21, .imul, 1), (22, .iadd, 1), (23, .istore 4, 2), (25, .aload_n 0, 1), (26, .getfield 33, 3), (29, .iload 4, 2), (31, .iaload, 1), (32, .bipush 20, 2), (34, .if_icmp .ne 30, 3), (37, .aload_n 0, 1), (38, .getfield 71, 3), (41, .iload_n 2, 1), (42, .iconst 1, 1), (43, .isub, 1), (44, .aload_n 0, 1), (45, .getfield 71, 3), (48, .iload_n 2, 1), (49, .iconst 1, 1), (50, .isub, 1), (51, .baload, 1), (52, .ifCond .ne 7, 3), (55, .iconst 1, 1), (56, .goto 4, 3), (59, .iconst 0, 1), (60, .bastore, 1), (61, .goto 145, 3), (64, .aload_n 0, 1), (65, .getfield 33, 3), (68, .iload 4, 2), (70, .iaload, 1), (71, .bipush 21, 2), (73, .if_icmp .eq 15, 3), (76, .aload_n 0, 1), (77, .getfield 33, 3), (80, .iload 4, 2), (82, .iaload, 1), (83, .bipush 22, 2), (85, .if_icmp .ne 82, 3), (88, .iinc 2 (-1), 3), (91, .aload_n 0, 1), (92, .getfield 71, 3), (95, .iload_n 2, 1), (96, .iconst 1, 1), (97, .isub, 1), (98, .aload_n 0, 1), (99, .getfield 33, 3), (102, .iload 4, 2), (104, .iaload, 1), (105, .bipush 21, 2), (107, .if_icmp .ne 31, 3), (110, .aload_n 0, 1), (111, .getfield 71, 3), (114, .iload_n 2, 1), (115, .iconst 1, 1), (116, .isub, 1), (117, .baload, 1), (118, .ifCond .eq 16, 3), (121, .aload_n 0, 1), (122, .getfield 71, 3), (125, .iload_n 2, 1), (126, .baload, 1), (127, .ifCond .eq 7, 3), (130, .iconst 1, 1), (131, .goto 32, 3), (134, .iconst 0, 1), (135, .goto 28, 3), (138, .aload_n 0, 1), (139, .getfield 71, 3), (142, .iload_n 2, 1), (143, .iconst 1, 1), (144, .isub, 1), (145, .baload, 1), (146, .ifCond .ne 12, 3), (149, .aload_n 0, 1), (150, .getfield 71, 3), (153, .iload_n 2, 1), (154, .baload, 1), (155, .ifCond .eq 7, 3), (158, .iconst 1, 1), (159, .goto 4, 3), (162, .iconst 0, 1), (163, .bastore, 1), (164, .goto 42, 3), (167, .aload_n 0, 1), (168, .getfield 71, 3), (171, .iload_n 2, 1), (172, .aload_n 0, 1), (173, .iload_n 1, 1), (174, .aload_n 0, 1), (175, .getfield 33, 3), (178, .iload 4, 2), (180, .iaload, 1), (181, .aload_n 0, 1), (182, .getfield 33, 3), (185, .iload 4, 2), (187, .iconst 1, 1), (188, .iadd, 1), (189, .iaload, 1), (190, .aload_n 0, 1), (191, .getfield 33, 3), (194, .iload 4, 2), (196, .iconst 2, 1), (197, .iadd, 1), (198, .iaload, 1), (199, .invokevirtual 457, 3), (202, .bastore, 1), (203, .iinc 2 1, 3), (206, .iinc 3 1, 3), (209, .goto (-205), 3), (212, .aload_n 0, 1), (213, .getfield 71, 3), (216, .iconst 0, 1), (217, .baload, 1), (218, .ireturn, 1)]
def mc_281 : List (Nat × Instr × Nat) := [(0, .aload_n 0, 1), (1, .iconst 0, 1), (2, .putfield 1, 3), (5, .aload_n 0, 1), (6, .getfield 33, 3), (9, .sipush 230, 3), (12, .iaload, 1), (13, .ifCond .eq 8, 3), (16, .iload_n 1, 1), (17, .iconst (-1), 1), (18, .if_icmp .ge 5, 3), (21, .iconst (-1), 1), (22, .ireturn, 1), (23, .iconst 0, 1), (24, .istore_n 2, 1), (25, .iconst 0, 1), (26, .istore_n 3, 1), (27, .iload_n 3, 1), (28, .aload_n 0, 1), (29, .getfield 33, 3), (32, .iconst 4, 1), (33, .iaload, 1), (34, .if_icmp .ge 30, 3), (37, .aload_n 0, 1), (38, .iload_n 3, 1), (39, .invokevirtual 461, 3), (42, .ifCond .ne 6, 3), (45, .goto 13, 3), (48, .iload_n 2, 1), (49, .iload_n 1, 1), (50, .if_icmp .ne 5, 3), (53, .iload_n 3, 1), (54, .ireturn, 1), (55, .iinc 2 1, 3), (58, .iinc 3 1, 3), (61, .goto (-34), 3), (64, .iload_n 1, 1), (65, .iconst (-1), 1), (66, .if_icmp .ne 7, 3), (69, .iload_n 2, 1), (70, .goto 4, 3), (73, .iconst (-1), 1), (74, .ireturn, 1)]
def mc_282 : List (Nat × Instr × Nat) := [(0, .aload_n 0, 1), (1, .iconst 0, 1), (2, .putfield 1, 3), (5, .iload_n 1, 1), (6, .iconst 0, 1), (7, .iconst 1, 1), (8, .invokestatic 184, 3), (11, .ifCond .ne 5, 3), (14, .iconst 0, 1), (15, .ireturn, 1), (16, .iconst 0, 1), (17, .istore_n 2, 1), (18, .iload_n 2, 1), (19, .sipush 411, 3), (22, .if_icmp .ge 27, 3), (25, .aload_n 0, 1), (26, .getfield 75, 3), (29, .sipush 411, 3), (32, .iload_n 1, 1), (33, .imul, 1), (34, .iload_n 2, 1), (35, .iadd, 1), (36, .aload_n 0, 1), (37, .getfield 33, 3), (40, .iload_n 2, 1), (41, .iaload, 1), (42, .iastore, 1), (43, .iinc 2 1, 3), (46, .goto (-28), 3), (49, .iconst 0, 1), (50, .istore_n 2, 1), (51, .iload_n 2, 1), (52, .bipush 27, 2), (54, .if_icmp .ge 26, 3), (57, .aload_n 0, 1), (58, .getfield 78, 3), (61, .bipush 27, 2), (63, .iload_n 1, 1), (64, .imul, 1), (65, .iload_n 2, 1), (66, .iadd, 1), (67, .aload_n 0, 1), (68, .getfield 43, 3), (71, .iload_n 2, 1), (72, .laload, 1), (73, .lastore, 1), (74, .iinc 2 1, 3), (77, .goto (-26), 3), (80, .aload_n 0, 1), (81, .getfield 81, 3), (84, .iload_n 1, 1), (85, .iconst 1, 1), (86, .bastore, 1), (87, .iconst 1, 1), (88, .ireturn, 1)]
def mc_283 : List (Nat × Instr × Nat) := [(0, .aload_n 0, 1), (1, .iconst 0, 1), (2, .putfield 1, 3), (5, .iload_n 1, 1), (6, .iconst 0, 1), (7, .iconst 1, 1), (8, .invokestatic 184, 3), (11, .ifCond .eq 12, 3), (14, .aload_n 0, 1), (15, .getfield 81, 3), (18, .iload_n 1, 1), (19, .baload, 1), (20, .ifCond .ne 5, 3), (23, .iconst 0, 1), (24, .ireturn, 1), (25, .iconst 0, 1), (26, .istore_n 2, 1), (27, .iload_n 2, 1), (28, .sipush 411, 3), (31, .if_icmp .ge 27, 3), (34, .aload_n 0, 1), (35, .getfield 33, 3), (38, .iload_n 2, 1), (39, .aload_n 0, 1), (40, .getfield 75, 3), (43, .sipush 411, 3), (46, .iload_n 1, 1), (47, .imul, 1), (48, .iload_n 2, 1), (49, .iadd, 1), (50, .iaload, 1), (51, .iastore, 1), (52, .iinc 2 1, 3), (55, .goto (-28), 3), (58, .iconst 0, 1), (59, .istore_n 2, 1), (60, .iload_n 2, 1), (61, .bipush 27, 2), (63, .if_icmp .ge 26, 3), (66, .aload_n 0, 1), (67, .getfield 43, 3), (70, .iload_n 2, 1), (71, .aload_n 0, 1), (72, .getfield 78, 3), (75, .bipush 27, 2), (77, .iload_n 1, 1), (78, .imul, 1), (79, .iload_n 2, 1), (80, .iadd, 1), (81, .laload, 1), (82, .lastore, 1), (83, .iinc 2 1, 3), (86, .goto (-26), 3), (89, .aload_n 0, 1), (90, .iconst 0, 1), (91, .putfield 247, 3), (94, .iconst 1, 1), (95, .ireturn, 1)]
def mc_284 : List (Nat × Instr × Nat) := [(0, .aload_n 0, 1), (1, .iconst 0, 1), (2, .putfield 1, 3), (5, .iload_n 1, 1), (6, .iconst 5, 1), (7, .if_icmp .ne 10, 3), (10, .aload_n 0, 1), (11, .getfield 7, 3), (14, .goto 22, 3), (17, .iload_n 1, 1), (18, .iconst 0, 1), (19, .iconst 4, 1), (20, .invokestatic 184, 3), (23, .ifCond .eq 12, 3), (26, .aload_n 0, 1), (27, .getfield 33, 3), (30, .iload_n 1, 1), (31, .iaload, 1), (32, .goto 4, 3), (35, .iconst (-1), 1), (36, .ireturn, 1)]
def mc_285 : List (Nat × Instr × Nat) := [(0, .iload_n 0, 1), (1, .iload_n 0, 1), (2, .iconst 1, 1), (3, .iushr, 1), (4, .ldc_w 265, 3), (7, .iand, 1), (8, .isub, 1), (9, .istore_n 0, 1), (10, .iload_n 0, 1), (11, .ldc_w 266, 3), (14, .iand, 1), (15, .iload_n 0, 1), (16, .iconst 2, 1), (17, .iushr, 1), (18, .ldc_w 266, 3), (21, .iand, 1), (22, .iadd, 1), (23, .istore_n 0, 1), (24, .iload_n 0, 1), (25, .iload_n 0, 1), (26, .iconst 4, 1), (27, .iushr, 1), (28, .iadd, 1), (29, .ldc_w 267, 3), (32, .iand, 1), (33, .istore_n 0, 1), (34, .iload_n 0, 1), (35, .iload_n 0, 1), (36, .bipush 8, 2), (38, .iushr, 1), (39, .iadd, 1), (40, .istore_n 0, 1), (41, .iload_n 0, 1), (42, .iload_n 0, 1), (43, .bipush 16, 2), (45, .iushr, 1), (46, .iadd, 1), (47, .istore_n 0, 1), (48, .iload_n 0, 1), (49, .bipush 63, 2), (51, .iand, 1), (52, .ireturn, 1)]
end
section
def mn_0 : MethodName := ⟨"ReadBound$Diary", "<init>", "(LReadBound$Tokens;LReadBound$Land;)V"⟩
theorem md_0 : (mc_0.all fun q => decide (decode prog_2_method_1_code q.1 = .ok (q.2.1, q.2.2))) = true := by decide +kernel
def mn_1 : MethodName := ⟨"ReadBound$Diary", "readLines", "()Z"⟩
theorem md_1 : (mc_1.all fun q => decide (decode prog_2_method_2_code q.1 = .ok (q.2.1, q.2.2))) = true := by decide +kernel
def mn_2 : MethodName := ⟨"ReadBound$Diary", "readLine", "()Z"⟩
theorem md_2 : (mc_2.all fun q => decide (decode prog_2_method_3_code q.1 = .ok (q.2.1, q.2.2))) = true := by decide +kernel
def mn_3 : MethodName := ⟨"ReadBound$Diary", "readManLine", "()Z"⟩
theorem md_3 : (mc_3.all fun q => decide (decode prog_2_method_4_code q.1 = .ok (q.2.1, q.2.2))) = true := by decide +kernel
def mn_4 : MethodName := ⟨"ReadBound$Diary", "takeFirst", "()Z"⟩
theorem md_4 : (mc_4.all fun q => decide (decode prog_2_method_5_code q.1 = .ok (q.2.1, q.2.2))) = true := by decide +kernel
def mn_5 : MethodName := ⟨"ReadBound$Diary", "add", "(III)Z"⟩
theorem md_5 : (mc_5.all fun q => decide (decode prog_2_method_6_code q.1 = .ok (q.2.1, q.2.2))) = true := by decide +kernel
def mn_6 : MethodName := ⟨"ReadBound$Image", "<init>", "()V"⟩
theorem md_6 : (mc_6.all fun q => decide (decode prog_3_method_1_code q.1 = .ok (q.2.1, q.2.2))) = true := by decide +kernel
def mn_7 : MethodName := ⟨"ReadBound$Image", "take", "(LReadBound$Land;LReadBound$Life;LReadBound$Sentence;)V"⟩
theorem md_7 : (mc_7.all fun q => decide (decode prog_3_method_2_code q.1 = .ok (q.2.1, q.2.2))) = true := by decide +kernel
def mn_8 : MethodName := ⟨"ReadBound$Image", "giveBack", "(LReadBound$Land;LReadBound$Life;LReadBound$Sentence;)V"⟩
theorem md_8 : (mc_8.all fun q => decide (decode prog_3_method_3_code q.1 = .ok (q.2.1, q.2.2))) = true := by decide +kernel
def mn_9 : MethodName := ⟨"ReadBound$Land", "<init>", "()V"⟩
theorem md_9 : (mc_9.all fun q => decide (decode prog_4_method_1_code q.1 = .ok (q.2.1, q.2.2))) = true := by decide +kernel
def mn_10 : MethodName := ⟨"ReadBound$Land", "clear", "()V"⟩
theorem md_10 : (mc_10.all fun q => decide (decode prog_4_method_2_code q.1 = .ok (q.2.1, q.2.2))) = true := by decide +kernel
def mn_11 : MethodName := ⟨"ReadBound$Land", "copyFrom", "(LReadBound$Land;)V"⟩
theorem md_11 : (mc_11.all fun q => decide (decode prog_4_method_3_code q.1 = .ok (q.2.1, q.2.2))) = true := by decide +kernel
def mn_12 : MethodName := ⟨"ReadBound$Land", "isTold", "(J)Z"⟩
theorem md_12 : (mc_12.all fun q => decide (decode prog_4_method_4_code q.1 = .ok (q.2.1, q.2.2))) = true := by decide +kernel
def mn_13 : MethodName := ⟨"ReadBound$Land", "numberOf", "(JI)I"⟩
theorem md_13 : (mc_13.all fun q => decide (decode prog_4_method_5_code q.1 = .ok (q.2.1, q.2.2))) = true := by decide +kernel
def mn_14 : MethodName := ⟨"ReadBound$Land", "addName", "(JI)I"⟩
theorem md_14 : (mc_14.all fun q => decide (decode prog_4_method_6_code q.1 = .ok (q.2.1, q.2.2))) = true := by decide +kernel
def mn_15 : MethodName := ⟨"ReadBound$Land", "addBits", "(II)V"⟩
theorem md_15 : (mc_15.all fun q => decide (decode prog_4_method_7_code q.1 = .ok (q.2.1, q.2.2))) = true := by decide +kernel
def mn_16 : MethodName := ⟨"ReadBound$Land", "hasRoad", "(II)Z"⟩
theorem md_16 : (mc_16.all fun q => decide (decode prog_4_method_8_code q.1 = .ok (q.2.1, q.2.2))) = true := by decide +kernel
def mn_17 : MethodName := ⟨"ReadBound$Land", "parts", "(III)Z"⟩
theorem md_17 : (mc_17.all fun q => decide (decode prog_4_method_9_code q.1 = .ok (q.2.1, q.2.2))) = true := by decide +kernel
def mn_18 : MethodName := ⟨"ReadBound$Land", "forbiddenBy", "(I)I"⟩
theorem md_18 : (mc_18.all fun q => decide (decode prog_4_method_10_code q.1 = .ok (q.2.1, q.2.2))) = true := by decide +kernel
def mn_19 : MethodName := ⟨"ReadBound$Land", "clerksOf", "(I)I"⟩
theorem md_19 : (mc_19.all fun q => decide (decode prog_4_method_11_code q.1 = .ok (q.2.1, q.2.2))) = true := by decide +kernel
def mn_20 : MethodName := ⟨"ReadBound$LandReader", "<init>", "(LReadBound$Tokens;LReadBound$Land;)V"⟩
theorem md_20 : (mc_20.all fun q => decide (decode prog_5_method_1_code q.1 = .ok (q.2.1, q.2.2))) = true := by decide +kernel
def mn_21 : MethodName := ⟨"ReadBound$LandReader", "readLines", "()I"⟩
theorem md_21 : (mc_21.all fun q => decide (decode prog_5_method_2_code q.1 = .ok (q.2.1, q.2.2))) = true := by decide +kernel
def mn_22 : MethodName := ⟨"ReadBound$LandReader", "readLine", "()Z"⟩
theorem md_22 : (mc_22.all fun q => decide (decode prog_5_method_3_code q.1 = .ok (q.2.1, q.2.2))) = true := by decide +kernel
def mn_23 : MethodName := ⟨"ReadBound$LandReader", "takeFirst", "(II)Z"⟩
theorem md_23 : (mc_23.all fun q => decide (decode prog_5_method_4_code q.1 = .ok (q.2.1, q.2.2))) = true := by decide +kernel
def mn_24 : MethodName := ⟨"ReadBound$LandReader", "takeNewName", "(I)I"⟩
theorem md_24 : (mc_24.all fun q => decide (decode prog_5_method_5_code q.1 = .ok (q.2.1, q.2.2))) = true := by decide +kernel
def mn_25 : MethodName := ⟨"ReadBound$LandReader", "readRoad", "()Z"⟩
theorem md_25 : (mc_25.all fun q => decide (decode prog_5_method_6_code q.1 = .ok (q.2.1, q.2.2))) = true := by decide +kernel
def mn_26 : MethodName := ⟨"ReadBound$LandReader", "takeLawHead", "()Z"⟩
theorem md_26 : (mc_26.all fun q => decide (decode prog_5_method_7_code q.1 = .ok (q.2.1, q.2.2))) = true := by decide +kernel
def mn_27 : MethodName := ⟨"ReadBound$LandReader", "readDeeds", "()Z"⟩
theorem md_27 : (mc_27.all fun q => decide (decode prog_5_method_8_code q.1 = .ok (q.2.1, q.2.2))) = true := by decide +kernel
def mn_28 : MethodName := ⟨"ReadBound$LandReader", "takeDeed", "(I)Z"⟩
theorem md_28 : (mc_28.all fun q => decide (decode prog_5_method_9_code q.1 = .ok (q.2.1, q.2.2))) = true := by decide +kernel
def mn_29 : MethodName := ⟨"ReadBound$LandReader", "readRepealed", "()Z"⟩
theorem md_29 : (mc_29.all fun q => decide (decode prog_5_method_10_code q.1 = .ok (q.2.1, q.2.2))) = true := by decide +kernel
def mn_30 : MethodName := ⟨"ReadBound$LandReader", "readMan", "()Z"⟩
theorem md_30 : (mc_30.all fun q => decide (decode prog_5_method_11_code q.1 = .ok (q.2.1, q.2.2))) = true := by decide +kernel
def mn_31 : MethodName := ⟨"ReadBound$LandReader", "readRound", "()Z"⟩
theorem md_31 : (mc_31.all fun q => decide (decode prog_5_method_12_code q.1 = .ok (q.2.1, q.2.2))) = true := by decide +kernel
def mn_32 : MethodName := ⟨"ReadBound$LandReader", "takeStop", "(I)Z"⟩
theorem md_32 : (mc_32.all fun q => decide (decode prog_5_method_13_code q.1 = .ok (q.2.1, q.2.2))) = true := by decide +kernel
def mn_33 : MethodName := ⟨"ReadBound$LandReader", "readClerk", "()Z"⟩
theorem md_33 : (mc_33.all fun q => decide (decode prog_5_method_14_code q.1 = .ok (q.2.1, q.2.2))) = true := by decide +kernel
def mn_34 : MethodName := ⟨"ReadBound$LandReader", "readPost", "()Z"⟩
theorem md_34 : (mc_34.all fun q => decide (decode prog_5_method_15_code q.1 = .ok (q.2.1, q.2.2))) = true := by decide +kernel
def mn_35 : MethodName := ⟨"ReadBound$Life", "<init>", "([I)V"⟩
theorem md_35 : (mc_35.all fun q => decide (decode prog_6_method_1_code q.1 = .ok (q.2.1, q.2.2))) = true := by decide +kernel
def mn_36 : MethodName := ⟨"ReadBound$Life", "copyFrom", "(LReadBound$Life;)V"⟩
theorem md_36 : (mc_36.all fun q => decide (decode prog_6_method_2_code q.1 = .ok (q.2.1, q.2.2))) = true := by decide +kernel
def mn_37 : MethodName := ⟨"ReadBound$Life", "begin", "()V"⟩
theorem md_37 : (mc_37.all fun q => decide (decode prog_6_method_3_code q.1 = .ok (q.2.1, q.2.2))) = true := by decide +kernel
def mn_38 : MethodName := ⟨"ReadBound$Life", "today", "()I"⟩
theorem md_38 : (mc_38.all fun q => decide (decode prog_6_method_4_code q.1 = .ok (q.2.1, q.2.2))) = true := by decide +kernel
def mn_39 : MethodName := ⟨"ReadBound$Life", "wordsOf", "(II)I"⟩
theorem md_39 : (mc_39.all fun q => decide (decode prog_6_method_5_code q.1 = .ok (q.2.1, q.2.2))) = true := by decide +kernel
def mn_40 : MethodName := ⟨"ReadBound$Life", "readOn", "(II)I"⟩
theorem md_40 : (mc_40.all fun q => decide (decode prog_6_method_6_code q.1 = .ok (q.2.1, q.2.2))) = true := by decide +kernel
def mn_41 : MethodName := ⟨"ReadBound$Life", "readBoard", "(I)V"⟩
theorem md_41 : (mc_41.all fun q => decide (decode prog_6_method_7_code q.1 = .ok (q.2.1, q.2.2))) = true := by decide +kernel
def mn_42 : MethodName := ⟨"ReadBound$Life", "readLaw", "(II)V"⟩
theorem md_42 : (mc_42.all fun q => decide (decode prog_6_method_8_code q.1 = .ok (q.2.1, q.2.2))) = true := by decide +kernel
def mn_43 : MethodName := ⟨"ReadBound$Life", "whyNot", "(III)I"⟩
theorem md_43 : (mc_43.all fun q => decide (decode prog_6_method_9_code q.1 = .ok (q.2.1, q.2.2))) = true := by decide +kernel
def mn_44 : MethodName := ⟨"ReadBound$Life", "whyNotGo", "(II)I"⟩
theorem md_44 : (mc_44.all fun q => decide (decode prog_6_method_10_code q.1 = .ok (q.2.1, q.2.2))) = true := by decide +kernel
def mn_45 : MethodName := ⟨"ReadBound$Life", "hasRoadTo", "(II)Z"⟩
theorem md_45 : (mc_45.all fun q => decide (decode prog_6_method_11_code q.1 = .ok (q.2.1, q.2.2))) = true := by decide +kernel
def mn_46 : MethodName := ⟨"ReadBound$Life", "live", "(III)V"⟩
theorem md_46 : (mc_46.all fun q => decide (decode prog_6_method_12_code q.1 = .ok (q.2.1, q.2.2))) = true := by decide +kernel
def mn_47 : MethodName := ⟨"ReadBound$Life", "loseWords", "(I)V"⟩
theorem md_47 : (mc_47.all fun q => decide (decode prog_6_method_13_code q.1 = .ok (q.2.1, q.2.2))) = true := by decide +kernel
def mn_48 : MethodName := ⟨"ReadBound$Life", "putUp", "(II)V"⟩
theorem md_48 : (mc_48.all fun q => decide (decode prog_6_method_14_code q.1 = .ok (q.2.1, q.2.2))) = true := by decide +kernel
def mn_49 : MethodName := ⟨"ReadBound$Life", "passDays", "(I)V"⟩
theorem md_49 : (mc_49.all fun q => decide (decode prog_6_method_15_code q.1 = .ok (q.2.1, q.2.2))) = true := by decide +kernel
def mn_50 : MethodName := ⟨"ReadBound$Life", "forgetOld", "()V"⟩
theorem md_50 : (mc_50.all fun q => decide (decode prog_6_method_16_code q.1 = .ok (q.2.1, q.2.2))) = true := by decide +kernel
def mn_51 : MethodName := ⟨"ReadBound$Life", "goRound", "(I)V"⟩
theorem md_51 : (mc_51.all fun q => decide (decode prog_6_method_17_code q.1 = .ok (q.2.1, q.2.2))) = true := by decide +kernel
def mn_52 : MethodName := ⟨"ReadBound$Life", "drawDays", "(II)V"⟩
theorem md_52 : (mc_52.all fun q => decide (decode prog_6_method_18_code q.1 = .ok (q.2.1, q.2.2))) = true := by decide +kernel
def mn_53 : MethodName := ⟨"ReadBound$Life", "drawMan", "(I)V"⟩
theorem md_53 : (mc_53.all fun q => decide (decode prog_6_method_19_code q.1 = .ok (q.2.1, q.2.2))) = true := by decide +kernel
def mn_54 : MethodName := ⟨"ReadBound$Life", "draw", "(I)I"⟩
theorem md_54 : (mc_54.all fun q => decide (decode prog_6_method_20_code q.1 = .ok (q.2.1, q.2.2))) = true := by decide +kernel
def mn_55 : MethodName := ⟨"ReadBound$Life", "stateOf", "(II)I"⟩
theorem md_55 : (mc_55.all fun q => decide (decode prog_6_method_21_code q.1 = .ok (q.2.1, q.2.2))) = true := by decide +kernel
def mn_56 : MethodName := ⟨"ReadBound$Life", "wholeFor", "(I)I"⟩
theorem md_56 : (mc_56.all fun q => decide (decode prog_6_method_22_code q.1 = .ok (q.2.1, q.2.2))) = true := by decide +kernel
def mn_57 : MethodName := ⟨"ReadBound$Life", "repealedBy", "(I)I"⟩
theorem md_57 : (mc_57.all fun q => decide (decode prog_6_method_23_code q.1 = .ok (q.2.1, q.2.2))) = true := by decide +kernel
def mn_58 : MethodName := ⟨"ReadBound$Life", "liftedFor", "(I)I"⟩
theorem md_58 : (mc_58.all fun q => decide (decode prog_6_method_24_code q.1 = .ok (q.2.1, q.2.2))) = true := by decide +kernel
def mn_59 : MethodName := ⟨"ReadBound$Life", "bindingOn", "(I)I"⟩
theorem md_59 : (mc_59.all fun q => decide (decode prog_6_method_25_code q.1 = .ok (q.2.1, q.2.2))) = true := by decide +kernel
def mn_60 : MethodName := ⟨"ReadBound$Life", "barredFor", "(I)I"⟩
theorem md_60 : (mc_60.all fun q => decide (decode prog_6_method_26_code q.1 = .ok (q.2.1, q.2.2))) = true := by decide +kernel
def mn_61 : MethodName := ⟨"ReadBound$Life", "menBoundBy", "(I)I"⟩
theorem md_61 : (mc_61.all fun q => decide (decode prog_6_method_27_code q.1 = .ok (q.2.1, q.2.2))) = true := by decide +kernel
def mn_62 : MethodName := ⟨"ReadBound$Life", "freeMen", "()I"⟩
theorem md_62 : (mc_62.all fun q => decide (decode prog_6_method_28_code q.1 = .ok (q.2.1, q.2.2))) = true := by decide +kernel
def mn_63 : MethodName := ⟨"ReadBound$Life", "wordsInAll", "(I)I"⟩
theorem md_63 : (mc_63.all fun q => decide (decode prog_6_method_29_code q.1 = .ok (q.2.1, q.2.2))) = true := by decide +kernel
def mn_64 : MethodName := ⟨"ReadBound$Life", "postsInAll", "()I"⟩
theorem md_64 : (mc_64.all fun q => decide (decode prog_6_method_30_code q.1 = .ok (q.2.1, q.2.2))) = true := by decide +kernel
def mn_65 : MethodName := ⟨"ReadBound$Life", "deedsInAll", "()I"⟩
theorem md_65 : (mc_65.all fun q => decide (decode prog_6_method_31_code q.1 = .ok (q.2.1, q.2.2))) = true := by decide +kernel
def mn_66 : MethodName := ⟨"ReadBound$Life", "menWithBlinkers", "()I"⟩
theorem md_66 : (mc_66.all fun q => decide (decode prog_6_method_32_code q.1 = .ok (q.2.1, q.2.2))) = true := by decide +kernel
def mn_67 : MethodName := ⟨"ReadBound$Life", "menIn", "(I)I"⟩
theorem md_67 : (mc_67.all fun q => decide (decode prog_6_method_33_code q.1 = .ok (q.2.1, q.2.2))) = true := by decide +kernel
def mn_68 : MethodName := ⟨"ReadBound$Life", "placesOf", "(I)I"⟩
theorem md_68 : (mc_68.all fun q => decide (decode prog_6_method_34_code q.1 = .ok (q.2.1, q.2.2))) = true := by decide +kernel
def mn_69 : MethodName := ⟨"ReadBound$Life", "placesOfAny", "(I)I"⟩
theorem md_69 : (mc_69.all fun q => decide (decode prog_6_method_35_code q.1 = .ok (q.2.1, q.2.2))) = true := by decide +kernel
def mn_70 : MethodName := ⟨"ReadBound$Past", "<init>", "()V"⟩
theorem md_70 : (mc_70.all fun q => decide (decode prog_7_method_1_code q.1 = .ok (q.2.1, q.2.2))) = true := by decide +kernel
def mn_71 : MethodName := ⟨"ReadBound$Past", "forget", "()V"⟩
theorem md_71 : (mc_71.all fun q => decide (decode prog_7_method_2_code q.1 = .ok (q.2.1, q.2.2))) = true := by decide +kernel
def mn_72 : MethodName := ⟨"ReadBound$Past", "keep", "([I)V"⟩
theorem md_72 : (mc_72.all fun q => decide (decode prog_7_method_3_code q.1 = .ok (q.2.1, q.2.2))) = true := by decide +kernel
def mn_73 : MethodName := ⟨"ReadBound$Past", "takeBack", "([I)I"⟩
theorem md_73 : (mc_73.all fun q => decide (decode prog_7_method_4_code q.1 = .ok (q.2.1, q.2.2))) = true := by decide +kernel
def mn_74 : MethodName := ⟨"ReadBound$Route", "<init>", "([I)V"⟩
theorem md_74 : (mc_74.all fun q => decide (decode prog_8_method_1_code q.1 = .ok (q.2.1, q.2.2))) = true := by decide +kernel
def mn_75 : MethodName := ⟨"ReadBound$Route", "find", "(III)I"⟩
theorem md_75 : (mc_75.all fun q => decide (decode prog_8_method_2_code q.1 = .ok (q.2.1, q.2.2))) = true := by decide +kernel
def mn_76 : MethodName := ⟨"ReadBound$Route", "neighboursOf", "(I)I"⟩
theorem md_76 : (mc_76.all fun q => decide (decode prog_8_method_3_code q.1 = .ok (q.2.1, q.2.2))) = true := by decide +kernel
def mn_77 : MethodName := ⟨"ReadBound$Route", "walk", "(II)V"⟩
theorem md_77 : (mc_77.all fun q => decide (decode prog_8_method_4_code q.1 = .ok (q.2.1, q.2.2))) = true := by decide +kernel
def mn_78 : MethodName := ⟨"ReadBound$Route", "leastOf", "(I)I"⟩
theorem md_78 : (mc_78.all fun q => decide (decode prog_8_method_5_code q.1 = .ok (q.2.1, q.2.2))) = true := by decide +kernel
def mn_79 : MethodName := ⟨"ReadBound$Sentence", "<init>", "()V"⟩
theorem md_79 : (mc_79.all fun q => decide (decode prog_9_method_1_code q.1 = .ok (q.2.1, q.2.2))) = true := by decide +kernel
def mn_80 : MethodName := ⟨"ReadBound$Sentence", "clear", "()V"⟩
theorem md_80 : (mc_80.all fun q => decide (decode prog_9_method_2_code q.1 = .ok (q.2.1, q.2.2))) = true := by decide +kernel
def mn_81 : MethodName := ⟨"ReadBound$Sentence", "copyFrom", "(LReadBound$Sentence;)V"⟩
theorem md_81 : (mc_81.all fun q => decide (decode prog_9_method_3_code q.1 = .ok (q.2.1, q.2.2))) = true := by decide +kernel
def mn_82 : MethodName := ⟨"ReadBound$Sentence", "add", "(III)V"⟩
theorem md_82 : (mc_82.all fun q => decide (decode prog_9_method_4_code q.1 = .ok (q.2.1, q.2.2))) = true := by decide +kernel
def mn_83 : MethodName := ⟨"ReadBound$Sentence", "menOf", "(LReadBound$Life;)I"⟩
theorem md_83 : (mc_83.all fun q => decide (decode prog_9_method_5_code q.1 = .ok (q.2.1, q.2.2))) = true := by decide +kernel
def mn_84 : MethodName := ⟨"ReadBound$Sentence", "menOfOne", "(LReadBound$Life;I)I"⟩
theorem md_84 : (mc_84.all fun q => decide (decode prog_9_method_6_code q.1 = .ok (q.2.1, q.2.2))) = true := by decide +kernel
def mn_85 : MethodName := ⟨"ReadBound$Sentence", "holds", "(LReadBound$Life;II)Z"⟩
theorem md_85 : (mc_85.all fun q => decide (decode prog_9_method_7_code q.1 = .ok (q.2.1, q.2.2))) = true := by decide +kernel
def mn_86 : MethodName := ⟨"ReadBound$Sentence", "compares", "(II)Z"⟩
theorem md_86 : (mc_86.all fun q => decide (decode prog_9_method_8_code q.1 = .ok (q.2.1, q.2.2))) = true := by decide +kernel
def mn_87 : MethodName := ⟨"ReadBound$SentenceReader", "<init>", "(LReadBound$Tokens;LReadBound$Land;LReadBound$Sentence;)V"⟩
theorem md_87 : (mc_87.all fun q => decide (decode prog_10_method_1_code q.1 = .ok (q.2.1, q.2.2))) = true := by decide +kernel
def mn_88 : MethodName := ⟨"ReadBound$SentenceReader", "readText", "()I"⟩
theorem md_88 : (mc_88.all fun q => decide (decode prog_10_method_2_code q.1 = .ok (q.2.1, q.2.2))) = true := by decide +kernel
def mn_89 : MethodName := ⟨"ReadBound$SentenceReader", "readCond", "(I)Z"⟩
theorem md_89 : (mc_89.all fun q => decide (decode prog_10_method_3_code q.1 = .ok (q.2.1, q.2.2))) = true := by decide +kernel
def mn_90 : MethodName := ⟨"ReadBound$SentenceReader", "readOne", "(I)Z"⟩
theorem md_90 : (mc_90.all fun q => decide (decode prog_10_method_4_code q.1 = .ok (q.2.1, q.2.2))) = true := by decide +kernel
def mn_91 : MethodName := ⟨"ReadBound$SentenceReader", "readNot", "(I)Z"⟩
theorem md_91 : (mc_91.all fun q => decide (decode prog_10_method_5_code q.1 = .ok (q.2.1, q.2.2))) = true := by decide +kernel
def mn_92 : MethodName := ⟨"ReadBound$SentenceReader", "readNamed", "(II)Z"⟩
theorem md_92 : (mc_92.all fun q => decide (decode prog_10_method_6_code q.1 = .ok (q.2.1, q.2.2))) = true := by decide +kernel
def mn_93 : MethodName := ⟨"ReadBound$SentenceReader", "readCompared", "(I)Z"⟩
theorem md_93 : (mc_93.all fun q => decide (decode prog_10_method_7_code q.1 = .ok (q.2.1, q.2.2))) = true := by decide +kernel
def mn_94 : MethodName := ⟨"ReadBound$Tokens", "<init>", "()V"⟩
theorem md_94 : (mc_94.all fun q => decide (decode prog_11_method_1_code q.1 = .ok (q.2.1, q.2.2))) = true := by decide +kernel
def mn_95 : MethodName := ⟨"ReadBound$Tokens", "addFour", "(I)V"⟩
theorem md_95 : (mc_95.all fun q => decide (decode prog_11_method_2_code q.1 = .ok (q.2.1, q.2.2))) = true := by decide +kernel
def mn_96 : MethodName := ⟨"ReadBound$Tokens", "byteAt", "(I)I"⟩
theorem md_96 : (mc_96.all fun q => decide (decode prog_11_method_3_code q.1 = .ok (q.2.1, q.2.2))) = true := by decide +kernel
def mn_97 : MethodName := ⟨"ReadBound$Tokens", "begin", "(I)V"⟩
theorem md_97 : (mc_97.all fun q => decide (decode prog_11_method_4_code q.1 = .ok (q.2.1, q.2.2))) = true := by decide +kernel
def mn_98 : MethodName := ⟨"ReadBound$Tokens", "advance", "()V"⟩
theorem md_98 : (mc_98.all fun q => decide (decode prog_11_method_5_code q.1 = .ok (q.2.1, q.2.2))) = true := by decide +kernel
def mn_99 : MethodName := ⟨"ReadBound$Tokens", "readRun", "(I)V"⟩
theorem md_99 : (mc_99.all fun q => decide (decode prog_11_method_6_code q.1 = .ok (q.2.1, q.2.2))) = true := by decide +kernel
def mn_100 : MethodName := ⟨"ReadBound$Tokens", "keywordOf", "(J)I"⟩
theorem md_100 : (mc_100.all fun q => decide (decode prog_11_method_7_code q.1 = .ok (q.2.1, q.2.2))) = true := by decide +kernel
def mn_101 : MethodName := ⟨"ReadBound$Tokens", "isLetter", "(I)Z"⟩
theorem md_101 : (mc_101.all fun q => decide (decode prog_11_method_8_code q.1 = .ok (q.2.1, q.2.2))) = true := by decide +kernel
def mn_102 : MethodName := ⟨"ReadBound$Tokens", "isDigit", "(I)Z"⟩
theorem md_102 : (mc_102.all fun q => decide (decode prog_11_method_9_code q.1 = .ok (q.2.1, q.2.2))) = true := by decide +kernel
def mn_103 : MethodName := ⟨"ReadBound$Tokens", "refuse", "(I)Z"⟩
theorem md_103 : (mc_103.all fun q => decide (decode prog_11_method_10_code q.1 = .ok (q.2.1, q.2.2))) = true := by decide +kernel
def mn_104 : MethodName := ⟨"ReadBound$Tokens", "isSign", "(C)Z"⟩
theorem md_104 : (mc_104.all fun q => decide (decode prog_11_method_11_code q.1 = .ok (q.2.1, q.2.2))) = true := by decide +kernel
def mn_105 : MethodName := ⟨"ReadBound$Tokens", "takeSign", "(C)Z"⟩
theorem md_105 : (mc_105.all fun q => decide (decode prog_11_method_12_code q.1 = .ok (q.2.1, q.2.2))) = true := by decide +kernel
def mn_106 : MethodName := ⟨"ReadBound$Tokens", "takeNumber", "(II)I"⟩
theorem md_106 : (mc_106.all fun q => decide (decode prog_11_method_13_code q.1 = .ok (q.2.1, q.2.2))) = true := by decide +kernel
def mn_107 : MethodName := ⟨"ReadBound$Tokens", "isNameHere", "()Z"⟩
theorem md_107 : (mc_107.all fun q => decide (decode prog_11_method_14_code q.1 = .ok (q.2.1, q.2.2))) = true := by decide +kernel
def mn_108 : MethodName := ⟨"ReadBound$Tokens", "nameHere", "(LReadBound$Land;I)I"⟩
theorem md_108 : (mc_108.all fun q => decide (decode prog_11_method_15_code q.1 = .ok (q.2.1, q.2.2))) = true := by decide +kernel
def mn_109 : MethodName := ⟨"ReadBound$Tokens", "takeName", "(LReadBound$Land;I)I"⟩
theorem md_109 : (mc_109.all fun q => decide (decode prog_11_method_16_code q.1 = .ok (q.2.1, q.2.2))) = true := by decide +kernel
def mn_110 : MethodName := ⟨"ReadBound", "<init>", "()V"⟩
theorem md_110 : (mc_110.all fun q => decide (decode prog_1_method_1_code q.1 = .ok (q.2.1, q.2.2))) = true := by decide +kernel
def mn_111 : MethodName := ⟨"ReadBound", "feed", "(IIIII)I"⟩
theorem md_111 : (mc_111.all fun q => decide (decode prog_1_method_2_code q.1 = .ok (q.2.1, q.2.2))) = true := by decide +kernel
def mn_112 : MethodName := ⟨"ReadBound", "end", "(I)Z"⟩
theorem md_112 : (mc_112.all fun q => decide (decode prog_1_method_3_code q.1 = .ok (q.2.1, q.2.2))) = true := by decide +kernel
def mn_113 : MethodName := ⟨"ReadBound", "land", "()I"⟩
theorem md_113 : (mc_113.all fun q => decide (decode prog_1_method_4_code q.1 = .ok (q.2.1, q.2.2))) = true := by decide +kernel
def mn_114 : MethodName := ⟨"ReadBound", "fault", "()I"⟩
theorem md_114 : (mc_114.all fun q => decide (decode prog_1_method_5_code q.1 = .ok (q.2.1, q.2.2))) = true := by decide +kernel
def mn_115 : MethodName := ⟨"ReadBound", "law", "(II)I"⟩
theorem md_115 : (mc_115.all fun q => decide (decode prog_1_method_6_code q.1 = .ok (q.2.1, q.2.2))) = true := by decide +kernel
def mn_116 : MethodName := ⟨"ReadBound", "place", "(II)I"⟩
theorem md_116 : (mc_116.all fun q => decide (decode prog_1_method_8_code q.1 = .ok (q.2.1, q.2.2))) = true := by decide +kernel
def mn_117 : MethodName := ⟨"ReadBound", "now", "(I)I"⟩
theorem md_117 : (mc_117.all fun q => decide (decode prog_1_method_9_code q.1 = .ok (q.2.1, q.2.2))) = true := by decide +kernel
def mn_118 : MethodName := ⟨"ReadBound", "go", "(II)I"⟩
theorem md_118 : (mc_118.all fun q => decide (decode prog_1_method_10_code q.1 = .ok (q.2.1, q.2.2))) = true := by decide +kernel
def mn_119 : MethodName := ⟨"ReadBound", "act", "(II)I"⟩
theorem md_119 : (mc_119.all fun q => decide (decode prog_1_method_11_code q.1 = .ok (q.2.1, q.2.2))) = true := by decide +kernel
def mn_120 : MethodName := ⟨"ReadBound", "wear", "(II)I"⟩
theorem md_120 : (mc_120.all fun q => decide (decode prog_1_method_12_code q.1 = .ok (q.2.1, q.2.2))) = true := by decide +kernel
def mn_121 : MethodName := ⟨"ReadBound", "fever", "(I)I"⟩
theorem md_121 : (mc_121.all fun q => decide (decode prog_1_method_13_code q.1 = .ok (q.2.1, q.2.2))) = true := by decide +kernel
def mn_122 : MethodName := ⟨"ReadBound", "post", "(II)I"⟩
theorem md_122 : (mc_122.all fun q => decide (decode prog_1_method_14_code q.1 = .ok (q.2.1, q.2.2))) = true := by decide +kernel
def mn_123 : MethodName := ⟨"ReadBound", "rain", "(I)I"⟩
theorem md_123 : (mc_123.all fun q => decide (decode prog_1_method_15_code q.1 = .ok (q.2.1, q.2.2))) = true := by decide +kernel
def mn_124 : MethodName := ⟨"ReadBound", "days", "(I)I"⟩
theorem md_124 : (mc_124.all fun q => decide (decode prog_1_method_16_code q.1 = .ok (q.2.1, q.2.2))) = true := by decide +kernel
def mn_125 : MethodName := ⟨"ReadBound", "undo", "()I"⟩
theorem md_125 : (mc_125.all fun q => decide (decode prog_1_method_17_code q.1 = .ok (q.2.1, q.2.2))) = true := by decide +kernel
def mn_126 : MethodName := ⟨"ReadBound", "words", "(II)I"⟩
theorem md_126 : (mc_126.all fun q => decide (decode prog_1_method_18_code q.1 = .ok (q.2.1, q.2.2))) = true := by decide +kernel
def mn_127 : MethodName := ⟨"ReadBound", "state", "(II)I"⟩
theorem md_127 : (mc_127.all fun q => decide (decode prog_1_method_19_code q.1 = .ok (q.2.1, q.2.2))) = true := by decide +kernel
def mn_128 : MethodName := ⟨"ReadBound", "binds", "(I)I"⟩
theorem md_128 : (mc_128.all fun q => decide (decode prog_1_method_20_code q.1 = .ok (q.2.1, q.2.2))) = true := by decide +kernel
def mn_129 : MethodName := ⟨"ReadBound", "barred", "(I)I"⟩
theorem md_129 : (mc_129.all fun q => decide (decode prog_1_method_21_code q.1 = .ok (q.2.1, q.2.2))) = true := by decide +kernel
def mn_130 : MethodName := ⟨"ReadBound", "lifted", "(I)I"⟩
theorem md_130 : (mc_130.all fun q => decide (decode prog_1_method_22_code q.1 = .ok (q.2.1, q.2.2))) = true := by decide +kernel
def mn_131 : MethodName := ⟨"ReadBound", "bound", "(I)I"⟩
theorem md_131 : (mc_131.all fun q => decide (decode prog_1_method_23_code q.1 = .ok (q.2.1, q.2.2))) = true := by decide +kernel
def mn_132 : MethodName := ⟨"ReadBound", "forgets", "(II)I"⟩
theorem md_132 : (mc_132.all fun q => decide (decode prog_1_method_24_code q.1 = .ok (q.2.1, q.2.2))) = true := by decide +kernel
def mn_133 : MethodName := ⟨"ReadBound", "way", "(III)I"⟩
theorem md_133 : (mc_133.all fun q => decide (decode prog_1_method_25_code q.1 = .ok (q.2.1, q.2.2))) = true := by decide +kernel
def mn_134 : MethodName := ⟨"ReadBound", "step", "(I)I"⟩
theorem md_134 : (mc_134.all fun q => decide (decode prog_1_method_26_code q.1 = .ok (q.2.1, q.2.2))) = true := by decide +kernel
def mn_135 : MethodName := ⟨"ReadBound", "meets", "(II)I"⟩
theorem md_135 : (mc_135.all fun q => decide (decode prog_1_method_27_code q.1 = .ok (q.2.1, q.2.2))) = true := by decide +kernel
def mn_136 : MethodName := ⟨"ReadBound", "boards", "(III)I"⟩
theorem md_136 : (mc_136.all fun q => decide (decode prog_1_method_28_code q.1 = .ok (q.2.1, q.2.2))) = true := by decide +kernel
def mn_137 : MethodName := ⟨"ReadBound", "posts", "(II)I"⟩
theorem md_137 : (mc_137.all fun q => decide (decode prog_1_method_29_code q.1 = .ok (q.2.1, q.2.2))) = true := by decide +kernel
def mn_138 : MethodName := ⟨"ReadBound", "posted", "()I"⟩
theorem md_138 : (mc_138.all fun q => decide (decode prog_1_method_30_code q.1 = .ok (q.2.1, q.2.2))) = true := by decide +kernel
def mn_139 : MethodName := ⟨"ReadBound", "reads", "(I)I"⟩
theorem md_139 : (mc_139.all fun q => decide (decode prog_1_method_31_code q.1 = .ok (q.2.1, q.2.2))) = true := by decide +kernel
def mn_140 : MethodName := ⟨"ReadBound", "surely", "()I"⟩
theorem md_140 : (mc_140.all fun q => decide (decode prog_1_method_32_code q.1 = .ok (q.2.1, q.2.2))) = true := by decide +kernel
def mn_141 : MethodName := ⟨"ReadBound", "when", "(III)I"⟩
theorem md_141 : (mc_141.all fun q => decide (decode prog_1_method_33_code q.1 = .ok (q.2.1, q.2.2))) = true := by decide +kernel
def mn_142 : MethodName := ⟨"ReadBound", "clerks", "(I)I"⟩
theorem md_142 : (mc_142.all fun q => decide (decode prog_1_method_34_code q.1 = .ok (q.2.1, q.2.2))) = true := by decide +kernel
def mn_143 : MethodName := ⟨"ReadBound", "drawn", "(II)I"⟩
theorem md_143 : (mc_143.all fun q => decide (decode prog_1_method_35_code q.1 = .ok (q.2.1, q.2.2))) = true := by decide +kernel
def mn_144 : MethodName := ⟨"ReadBound", "odds", "(III)I"⟩
theorem md_144 : (mc_144.all fun q => decide (decode prog_1_method_36_code q.1 = .ok (q.2.1, q.2.2))) = true := by decide +kernel
def mn_145 : MethodName := ⟨"ReadBound", "diary", "(I)I"⟩
theorem md_145 : (mc_145.all fun q => decide (decode prog_1_method_37_code q.1 = .ok (q.2.1, q.2.2))) = true := by decide +kernel
def mn_146 : MethodName := ⟨"ReadBound", "told", "(I)I"⟩
theorem md_146 : (mc_146.all fun q => decide (decode prog_1_method_38_code q.1 = .ok (q.2.1, q.2.2))) = true := by decide +kernel
def mn_147 : MethodName := ⟨"ReadBound", "sentence", "()I"⟩
theorem md_147 : (mc_147.all fun q => decide (decode prog_1_method_39_code q.1 = .ok (q.2.1, q.2.2))) = true := by decide +kernel
def mn_148 : MethodName := ⟨"ReadBound", "said", "(I)I"⟩
theorem md_148 : (mc_148.all fun q => decide (decode prog_1_method_40_code q.1 = .ok (q.2.1, q.2.2))) = true := by decide +kernel
def mn_149 : MethodName := ⟨"ReadBound", "image", "(I)Z"⟩
theorem md_149 : (mc_149.all fun q => decide (decode prog_1_method_41_code q.1 = .ok (q.2.1, q.2.2))) = true := by decide +kernel
def mn_150 : MethodName := ⟨"ReadBound", "restore", "(I)Z"⟩
theorem md_150 : (mc_150.all fun q => decide (decode prog_1_method_42_code q.1 = .ok (q.2.1, q.2.2))) = true := by decide +kernel
def mn_151 : MethodName := ⟨"ReadBound", "count", "(I)I"⟩
theorem md_151 : (mc_151.all fun q => decide (decode prog_1_method_43_code q.1 = .ok (q.2.1, q.2.2))) = true := by decide +kernel
def mn_152 : MethodName := ⟨"ReadBound", "isOne", "(II)Z"⟩
theorem md_152 : (mc_152.all fun q => decide (decode prog_1_method_44_code q.1 = .ok (q.2.1, q.2.2))) = true := by decide +kernel
def mn_153 : MethodName := ⟨"ReadBound", "areBits", "(II)Z"⟩
theorem md_153 : (mc_153.all fun q => decide (decode prog_1_method_45_code q.1 = .ok (q.2.1, q.2.2))) = true := by decide +kernel
def mn_154 : MethodName := ⟨"ReadBound", "isManAndLaw", "(II)Z"⟩
theorem md_154 : (mc_154.all fun q => decide (decode prog_1_method_46_code q.1 = .ok (q.2.1, q.2.2))) = true := by decide +kernel
def mn_155 : MethodName := ⟨"ReadBound", "imageIn", "(I)LReadBound$Image;"⟩
theorem md_155 : (mc_155.all fun q => decide (decode prog_1_method_47_code q.1 = .ok (q.2.1, q.2.2))) = true := by decide +kernel
def mn_156 : MethodName := ⟨"ReadBound", "attempt", "(III)I"⟩
theorem md_156 : (mc_156.all fun q => decide (decode prog_1_method_48_code q.1 = .ok (q.2.1, q.2.2))) = true := by decide +kernel
def mn_157 : MethodName := ⟨"ReadBound", "menWhoHaveAll", "(II)I"⟩
theorem md_157 : (mc_157.all fun q => decide (decode prog_1_method_49_code q.1 = .ok (q.2.1, q.2.2))) = true := by decide +kernel
def mn_158 : MethodName := ⟨"ReadBound", "judge", "(LReadBound$Life;)I"⟩
theorem md_158 : (mc_158.all fun q => decide (decode prog_1_method_50_code q.1 = .ok (q.2.1, q.2.2))) = true := by decide +kernel
def mn_159 : MethodName := ⟨"ReadBound", "at", "([II)I"⟩
theorem md_159 : (mc_159.all fun q => decide (decode prog_1_method_51_code q.1 = .ok (q.2.1, q.2.2))) = true := by decide +kernel
def mn_160 : MethodName := ⟨"ReadBound", "put", "([III)V"⟩
theorem md_160 : (mc_160.all fun q => decide (decode prog_1_method_52_code q.1 = .ok (q.2.1, q.2.2))) = true := by decide +kernel
def mn_161 : MethodName := ⟨"ReadBound", "copy", "([I[I)V"⟩
theorem md_161 : (mc_161.all fun q => decide (decode prog_1_method_53_code q.1 = .ok (q.2.1, q.2.2))) = true := by decide +kernel
def mn_162 : MethodName := ⟨"ReadBoundModel", "throwsIf", "(Z)Z"⟩
theorem md_162 : (mc_162.all fun q => decide (decode prog_13_method_2_code q.1 = .ok (q.2.1, q.2.2))) = true := by decide +kernel
def mn_163 : MethodName := ⟨"ReadBoundModel", "feed", "(IIIII)I"⟩
theorem md_163 : (mc_163.all fun q => decide (decode prog_13_method_3_code q.1 = .ok (q.2.1, q.2.2))) = true := by decide +kernel
def mn_164 : MethodName := ⟨"ReadBoundModel", "four", "(I)V"⟩
theorem md_164 : (mc_164.all fun q => decide (decode prog_13_method_4_code q.1 = .ok (q.2.1, q.2.2))) = true := by decide +kernel
def mn_165 : MethodName := ⟨"ReadBoundModel", "end", "(I)Z"⟩
theorem md_165 : (mc_165.all fun q => decide (decode prog_13_method_5_code q.1 = .ok (q.2.1, q.2.2))) = true := by decide +kernel
def mn_166 : MethodName := ⟨"ReadBoundModel", "taken", "(I)V"⟩
theorem md_166 : (mc_166.all fun q => decide (decode prog_13_method_6_code q.1 = .ok (q.2.1, q.2.2))) = true := by decide +kernel
def mn_167 : MethodName := ⟨"ReadBoundModel", "isIn", "(III)Z"⟩
theorem md_167 : (mc_167.all fun q => decide (decode prog_13_method_7_code q.1 = .ok (q.2.1, q.2.2))) = true := by decide +kernel
def mn_168 : MethodName := ⟨"ReadBoundModel", "bitOf", "(II)Z"⟩
theorem md_168 : (mc_168.all fun q => decide (decode prog_13_method_8_code q.1 = .ok (q.2.1, q.2.2))) = true := by decide +kernel
def mn_169 : MethodName := ⟨"ReadBoundModel", "lesser", "(II)I"⟩
theorem md_169 : (mc_169.all fun q => decide (decode prog_13_method_9_code q.1 = .ok (q.2.1, q.2.2))) = true := by decide +kernel
def mn_170 : MethodName := ⟨"ReadBoundModel", "greater", "(II)I"⟩
theorem md_170 : (mc_170.all fun q => decide (decode prog_13_method_10_code q.1 = .ok (q.2.1, q.2.2))) = true := by decide +kernel
def mn_171 : MethodName := ⟨"ReadBoundModel", "bits", "(I)I"⟩
theorem md_171 : (mc_171.all fun q => decide (decode prog_13_method_11_code q.1 = .ok (q.2.1, q.2.2))) = true := by decide +kernel
def mn_172 : MethodName := ⟨"ReadBoundModel", "<init>", "()V"⟩
theorem md_172 : (mc_172.all fun q => decide (decode prog_13_method_12_code q.1 = .ok (q.2.1, q.2.2))) = true := by decide +kernel
def mn_173 : MethodName := ⟨"ReadBoundModel", "peek", "()I"⟩
theorem md_173 : (mc_173.all fun q => decide (decode prog_13_method_13_code q.1 = .ok (q.2.1, q.2.2))) = true := by decide +kernel
def mn_174 : MethodName := ⟨"ReadBoundModel", "isSmall", "(I)Z"⟩
theorem md_174 : (mc_174.all fun q => decide (decode prog_13_method_14_code q.1 = .ok (q.2.1, q.2.2))) = true := by decide +kernel
def mn_175 : MethodName := ⟨"ReadBoundModel", "isDigit", "(I)Z"⟩
theorem md_175 : (mc_175.all fun q => decide (decode prog_13_method_15_code q.1 = .ok (q.2.1, q.2.2))) = true := by decide +kernel
def mn_176 : MethodName := ⟨"ReadBoundModel", "skip", "()V"⟩
theorem md_176 : (mc_176.all fun q => decide (decode prog_13_method_16_code q.1 = .ok (q.2.1, q.2.2))) = true := by decide +kernel
def mn_177 : MethodName := ⟨"ReadBoundModel", "bad", "(I)Z"⟩
theorem md_177 : (mc_177.all fun q => decide (decode prog_13_method_17_code q.1 = .ok (q.2.1, q.2.2))) = true := by decide +kernel
def mn_178 : MethodName := ⟨"ReadBoundModel", "isWord", "(J)Z"⟩
theorem md_178 : (mc_178.all fun q => decide (decode prog_13_method_18_code q.1 = .ok (q.2.1, q.2.2))) = true := by decide +kernel
def mn_179 : MethodName := ⟨"ReadBoundModel", "isSign", "(I)Z"⟩
theorem md_179 : (mc_179.all fun q => decide (decode prog_13_method_19_code q.1 = .ok (q.2.1, q.2.2))) = true := by decide +kernel
def mn_180 : MethodName := ⟨"ReadBoundModel", "sign", "(I)Z"⟩
theorem md_180 : (mc_180.all fun q => decide (decode prog_13_method_20_code q.1 = .ok (q.2.1, q.2.2))) = true := by decide +kernel
def mn_181 : MethodName := ⟨"ReadBoundModel", "isName", "()Z"⟩
theorem md_181 : (mc_181.all fun q => decide (decode prog_13_method_21_code q.1 = .ok (q.2.1, q.2.2))) = true := by decide +kernel
def mn_182 : MethodName := ⟨"ReadBoundModel", "takes", "(II)Z"⟩
theorem md_182 : (mc_182.all fun q => decide (decode prog_13_method_22_code q.1 = .ok (q.2.1, q.2.2))) = true := by decide +kernel
def mn_183 : MethodName := ⟨"ReadBoundModel", "puts", "(III)Z"⟩
theorem md_183 : (mc_183.all fun q => decide (decode prog_13_method_23_code q.1 = .ok (q.2.1, q.2.2))) = true := by decide +kernel
def mn_184 : MethodName := ⟨"ReadBoundModel", "find", "(II)I"⟩
theorem md_184 : (mc_184.all fun q => decide (decode prog_13_method_24_code q.1 = .ok (q.2.1, q.2.2))) = true := by decide +kernel
def mn_185 : MethodName := ⟨"ReadBoundModel", "fresh", "(I)Z"⟩
theorem md_185 : (mc_185.all fun q => decide (decode prog_13_method_25_code q.1 = .ok (q.2.1, q.2.2))) = true := by decide +kernel
def mn_186 : MethodName := ⟨"ReadBoundModel", "looksAt", "(II)Z"⟩
theorem md_186 : (mc_186.all fun q => decide (decode prog_13_method_26_code q.1 = .ok (q.2.1, q.2.2))) = true := by decide +kernel
def mn_187 : MethodName := ⟨"ReadBoundModel", "takesName", "(II)Z"⟩
theorem md_187 : (mc_187.all fun q => decide (decode prog_13_method_27_code q.1 = .ok (q.2.1, q.2.2))) = true := by decide +kernel
def mn_188 : MethodName := ⟨"ReadBoundModel", "line", "()Z"⟩
theorem md_188 : (mc_188.all fun q => decide (decode prog_13_method_28_code q.1 = .ok (q.2.1, q.2.2))) = true := by decide +kernel
def mn_189 : MethodName := ⟨"ReadBoundModel", "readRoad", "()Z"⟩
theorem md_189 : (mc_189.all fun q => decide (decode prog_13_method_29_code q.1 = .ok (q.2.1, q.2.2))) = true := by decide +kernel
def mn_190 : MethodName := ⟨"ReadBoundModel", "readLaw", "(Z)Z"⟩
theorem md_190 : (mc_190.all fun q => decide (decode prog_13_method_30_code q.1 = .ok (q.2.1, q.2.2))) = true := by decide +kernel
def mn_191 : MethodName := ⟨"ReadBoundModel", "readRound", "()Z"⟩
theorem md_191 : (mc_191.all fun q => decide (decode prog_13_method_31_code q.1 = .ok (q.2.1, q.2.2))) = true := by decide +kernel
def mn_192 : MethodName := ⟨"ReadBoundModel", "land", "()I"⟩
theorem md_192 : (mc_192.all fun q => decide (decode prog_13_method_32_code q.1 = .ok (q.2.1, q.2.2))) = true := by decide +kernel
def mn_193 : MethodName := ⟨"ReadBoundModel", "fault", "()I"⟩
theorem md_193 : (mc_193.all fun q => decide (decode prog_13_method_33_code q.1 = .ok (q.2.1, q.2.2))) = true := by decide +kernel
def mn_194 : MethodName := ⟨"ReadBoundModel", "isPlace", "(I)Z"⟩
theorem md_194 : (mc_194.all fun q => decide (decode prog_13_method_34_code q.1 = .ok (q.2.1, q.2.2))) = true := by decide +kernel
def mn_195 : MethodName := ⟨"ReadBoundModel", "isDeed", "(I)Z"⟩
theorem md_195 : (mc_195.all fun q => decide (decode prog_13_method_35_code q.1 = .ok (q.2.1, q.2.2))) = true := by decide +kernel
def mn_196 : MethodName := ⟨"ReadBoundModel", "isLaw", "(I)Z"⟩
theorem md_196 : (mc_196.all fun q => decide (decode prog_13_method_36_code q.1 = .ok (q.2.1, q.2.2))) = true := by decide +kernel
def mn_197 : MethodName := ⟨"ReadBoundModel", "isMan", "(I)Z"⟩
theorem md_197 : (mc_197.all fun q => decide (decode prog_13_method_37_code q.1 = .ok (q.2.1, q.2.2))) = true := by decide +kernel
def mn_198 : MethodName := ⟨"ReadBoundModel", "cell", "(II)I"⟩
theorem md_198 : (mc_198.all fun q => decide (decode prog_13_method_38_code q.1 = .ok (q.2.1, q.2.2))) = true := by decide +kernel
def mn_199 : MethodName := ⟨"ReadBoundModel", "has", "(III)V"⟩
theorem md_199 : (mc_199.all fun q => decide (decode prog_13_method_39_code q.1 = .ok (q.2.1, q.2.2))) = true := by decide +kernel
def mn_200 : MethodName := ⟨"ReadBoundModel", "reads", "(II)V"⟩
theorem md_200 : (mc_200.all fun q => decide (decode prog_13_method_40_code q.1 = .ok (q.2.1, q.2.2))) = true := by decide +kernel
def mn_201 : MethodName := ⟨"ReadBoundModel", "readsAll", "(I)V"⟩
theorem md_201 : (mc_201.all fun q => decide (decode prog_13_method_41_code q.1 = .ok (q.2.1, q.2.2))) = true := by decide +kernel
def mn_202 : MethodName := ⟨"ReadBoundModel", "stateOf", "(II)I"⟩
theorem md_202 : (mc_202.all fun q => decide (decode prog_13_method_42_code q.1 = .ok (q.2.1, q.2.2))) = true := by decide +kernel
def mn_203 : MethodName := ⟨"ReadBoundModel", "isRepealed", "(II)Z"⟩
theorem md_203 : (mc_203.all fun q => decide (decode prog_13_method_43_code q.1 = .ok (q.2.1, q.2.2))) = true := by decide +kernel
def mn_204 : MethodName := ⟨"ReadBoundModel", "doesBind", "(II)Z"⟩
theorem md_204 : (mc_204.all fun q => decide (decode prog_13_method_44_code q.1 = .ok (q.2.1, q.2.2))) = true := by decide +kernel
def mn_205 : MethodName := ⟨"ReadBoundModel", "bindsOf", "(I)I"⟩
theorem md_205 : (mc_205.all fun q => decide (decode prog_13_method_45_code q.1 = .ok (q.2.1, q.2.2))) = true := by decide +kernel
def mn_206 : MethodName := ⟨"ReadBoundModel", "forbiddenBy", "(I)I"⟩
theorem md_206 : (mc_206.all fun q => decide (decode prog_13_method_46_code q.1 = .ok (q.2.1, q.2.2))) = true := by decide +kernel
def mn_207 : MethodName := ⟨"ReadBoundModel", "barredOf", "(I)I"⟩
theorem md_207 : (mc_207.all fun q => decide (decode prog_13_method_47_code q.1 = .ok (q.2.1, q.2.2))) = true := by decide +kernel
def mn_208 : MethodName := ⟨"ReadBoundModel", "wordsOf", "(I)I"⟩
theorem md_208 : (mc_208.all fun q => decide (decode prog_13_method_48_code q.1 = .ok (q.2.1, q.2.2))) = true := by decide +kernel
def mn_209 : MethodName := ⟨"ReadBoundModel", "law", "(II)I"⟩
theorem md_209 : (mc_209.all fun q => decide (decode prog_13_method_49_code q.1 = .ok (q.2.1, q.2.2))) = true := by decide +kernel
def mn_210 : MethodName := ⟨"ReadBoundModel", "man", "(II)I"⟩
theorem md_210 : (mc_210.all fun q => decide (decode prog_13_method_50_code q.1 = .ok (q.2.1, q.2.2))) = true := by decide +kernel
def mn_211 : MethodName := ⟨"ReadBoundModel", "place", "(II)I"⟩
theorem md_211 : (mc_211.all fun q => decide (decode prog_13_method_51_code q.1 = .ok (q.2.1, q.2.2))) = true := by decide +kernel
def mn_212 : MethodName := ⟨"ReadBoundModel", "freeMen", "()I"⟩
theorem md_212 : (mc_212.all fun q => decide (decode prog_13_method_52_code q.1 = .ok (q.2.1, q.2.2))) = true := by decide +kernel
def mn_213 : MethodName := ⟨"ReadBoundModel", "now", "(I)I"⟩
theorem md_213 : (mc_213.all fun q => decide (decode prog_13_method_53_code q.1 = .ok (q.2.1, q.2.2))) = true := by decide +kernel
def mn_214 : MethodName := ⟨"ReadBoundModel", "whyGo", "(II)I"⟩
theorem md_214 : (mc_214.all fun q => decide (decode prog_13_method_54_code q.1 = .ok (q.2.1, q.2.2))) = true := by decide +kernel
def mn_215 : MethodName := ⟨"ReadBoundModel", "comes", "(II)V"⟩
theorem md_215 : (mc_215.all fun q => decide (decode prog_13_method_55_code q.1 = .ok (q.2.1, q.2.2))) = true := by decide +kernel
def mn_216 : MethodName := ⟨"ReadBoundModel", "goes", "(II)V"⟩
theorem md_216 : (mc_216.all fun q => decide (decode prog_13_method_56_code q.1 = .ok (q.2.1, q.2.2))) = true := by decide +kernel
def mn_217 : MethodName := ⟨"ReadBoundModel", "whyAct", "(II)I"⟩
theorem md_217 : (mc_217.all fun q => decide (decode prog_13_method_57_code q.1 = .ok (q.2.1, q.2.2))) = true := by decide +kernel
def mn_218 : MethodName := ⟨"ReadBoundModel", "acts", "(I)V"⟩
theorem md_218 : (mc_218.all fun q => decide (decode prog_13_method_58_code q.1 = .ok (q.2.1, q.2.2))) = true := by decide +kernel
def mn_219 : MethodName := ⟨"ReadBoundModel", "whyWear", "(II)I"⟩
theorem md_219 : (mc_219.all fun q => decide (decode prog_13_method_59_code q.1 = .ok (q.2.1, q.2.2))) = true := by decide +kernel
def mn_220 : MethodName := ⟨"ReadBoundModel", "wears", "(II)V"⟩
theorem md_220 : (mc_220.all fun q => decide (decode prog_13_method_60_code q.1 = .ok (q.2.1, q.2.2))) = true := by decide +kernel
def mn_221 : MethodName := ⟨"ReadBoundModel", "whyFever", "(I)I"⟩
theorem md_221 : (mc_221.all fun q => decide (decode prog_13_method_61_code q.1 = .ok (q.2.1, q.2.2))) = true := by decide +kernel
def mn_222 : MethodName := ⟨"ReadBoundModel", "fevers", "(I)V"⟩
theorem md_222 : (mc_222.all fun q => decide (decode prog_13_method_62_code q.1 = .ok (q.2.1, q.2.2))) = true := by decide +kernel
def mn_223 : MethodName := ⟨"ReadBoundModel", "whyPost", "(II)I"⟩
theorem md_223 : (mc_223.all fun q => decide (decode prog_13_method_63_code q.1 = .ok (q.2.1, q.2.2))) = true := by decide +kernel
def mn_224 : MethodName := ⟨"ReadBoundModel", "putsUp", "(II)V"⟩
theorem md_224 : (mc_224.all fun q => decide (decode prog_13_method_64_code q.1 = .ok (q.2.1, q.2.2))) = true := by decide +kernel
def mn_225 : MethodName := ⟨"ReadBoundModel", "whyRain", "(I)I"⟩
theorem md_225 : (mc_225.all fun q => decide (decode prog_13_method_65_code q.1 = .ok (q.2.1, q.2.2))) = true := by decide +kernel
def mn_226 : MethodName := ⟨"ReadBoundModel", "rains", "(I)V"⟩
theorem md_226 : (mc_226.all fun q => decide (decode prog_13_method_66_code q.1 = .ok (q.2.1, q.2.2))) = true := by decide +kernel
def mn_227 : MethodName := ⟨"ReadBoundModel", "walks", "(I)V"⟩
theorem md_227 : (mc_227.all fun q => decide (decode prog_13_method_67_code q.1 = .ok (q.2.1, q.2.2))) = true := by decide +kernel
def mn_228 : MethodName := ⟨"ReadBoundModel", "day", "()V"⟩
theorem md_228 : (mc_228.all fun q => decide (decode prog_13_method_68_code q.1 = .ok (q.2.1, q.2.2))) = true := by decide +kernel
def mn_229 : MethodName := ⟨"ReadBoundModel", "goesOn", "(I)I"⟩
theorem md_229 : (mc_229.all fun q => decide (decode prog_13_method_69_code q.1 = .ok (q.2.1, q.2.2))) = true := by decide +kernel
def mn_230 : MethodName := ⟨"ReadBoundModel", "go", "(II)I"⟩
theorem md_230 : (mc_230.all fun q => decide (decode prog_13_method_70_code q.1 = .ok (q.2.1, q.2.2))) = true := by decide +kernel
def mn_231 : MethodName := ⟨"ReadBoundModel", "act", "(II)I"⟩
theorem md_231 : (mc_231.all fun q => decide (decode prog_13_method_71_code q.1 = .ok (q.2.1, q.2.2))) = true := by decide +kernel
def mn_232 : MethodName := ⟨"ReadBoundModel", "wear", "(II)I"⟩
theorem md_232 : (mc_232.all fun q => decide (decode prog_13_method_72_code q.1 = .ok (q.2.1, q.2.2))) = true := by decide +kernel
def mn_233 : MethodName := ⟨"ReadBoundModel", "fever", "(I)I"⟩
theorem md_233 : (mc_233.all fun q => decide (decode prog_13_method_73_code q.1 = .ok (q.2.1, q.2.2))) = true := by decide +kernel
def mn_234 : MethodName := ⟨"ReadBoundModel", "post", "(II)I"⟩
theorem md_234 : (mc_234.all fun q => decide (decode prog_13_method_74_code q.1 = .ok (q.2.1, q.2.2))) = true := by decide +kernel
def mn_235 : MethodName := ⟨"ReadBoundModel", "rain", "(I)I"⟩
theorem md_235 : (mc_235.all fun q => decide (decode prog_13_method_75_code q.1 = .ok (q.2.1, q.2.2))) = true := by decide +kernel
def mn_236 : MethodName := ⟨"ReadBoundModel", "days", "(I)I"⟩
theorem md_236 : (mc_236.all fun q => decide (decode prog_13_method_76_code q.1 = .ok (q.2.1, q.2.2))) = true := by decide +kernel
def mn_237 : MethodName := ⟨"ReadBoundModel", "keep", "()V"⟩
theorem md_237 : (mc_237.all fun q => decide (decode prog_13_method_77_code q.1 = .ok (q.2.1, q.2.2))) = true := by decide +kernel
def mn_238 : MethodName := ⟨"ReadBoundModel", "undo", "()I"⟩
theorem md_238 : (mc_238.all fun q => decide (decode prog_13_method_78_code q.1 = .ok (q.2.1, q.2.2))) = true := by decide +kernel
def mn_239 : MethodName := ⟨"ReadBoundModel", "tries", "()V"⟩
theorem md_239 : (mc_239.all fun q => decide (decode prog_13_method_79_code q.1 = .ok (q.2.1, q.2.2))) = true := by decide +kernel
def mn_240 : MethodName := ⟨"ReadBoundModel", "back", "()V"⟩
theorem md_240 : (mc_240.all fun q => decide (decode prog_13_method_80_code q.1 = .ok (q.2.1, q.2.2))) = true := by decide +kernel
def mn_241 : MethodName := ⟨"ReadBoundModel", "words", "(II)I"⟩
theorem md_241 : (mc_241.all fun q => decide (decode prog_13_method_81_code q.1 = .ok (q.2.1, q.2.2))) = true := by decide +kernel
def mn_242 : MethodName := ⟨"ReadBoundModel", "state", "(II)I"⟩
theorem md_242 : (mc_242.all fun q => decide (decode prog_13_method_82_code q.1 = .ok (q.2.1, q.2.2))) = true := by decide +kernel
def mn_243 : MethodName := ⟨"ReadBoundModel", "binds", "(I)I"⟩
theorem md_243 : (mc_243.all fun q => decide (decode prog_13_method_83_code q.1 = .ok (q.2.1, q.2.2))) = true := by decide +kernel
def mn_244 : MethodName := ⟨"ReadBoundModel", "barred", "(I)I"⟩
theorem md_244 : (mc_244.all fun q => decide (decode prog_13_method_84_code q.1 = .ok (q.2.1, q.2.2))) = true := by decide +kernel
def mn_245 : MethodName := ⟨"ReadBoundModel", "lifted", "(I)I"⟩
theorem md_245 : (mc_245.all fun q => decide (decode prog_13_method_85_code q.1 = .ok (q.2.1, q.2.2))) = true := by decide +kernel
def mn_246 : MethodName := ⟨"ReadBoundModel", "bound", "(I)I"⟩
theorem md_246 : (mc_246.all fun q => decide (decode prog_13_method_86_code q.1 = .ok (q.2.1, q.2.2))) = true := by decide +kernel
def mn_247 : MethodName := ⟨"ReadBoundModel", "forgets", "(II)I"⟩
theorem md_247 : (mc_247.all fun q => decide (decode prog_13_method_87_code q.1 = .ok (q.2.1, q.2.2))) = true := by decide +kernel
def mn_248 : MethodName := ⟨"ReadBoundModel", "clerks", "(I)I"⟩
theorem md_248 : (mc_248.all fun q => decide (decode prog_13_method_88_code q.1 = .ok (q.2.1, q.2.2))) = true := by decide +kernel
def mn_249 : MethodName := ⟨"ReadBoundModel", "canEnter", "(II)Z"⟩
theorem md_249 : (mc_249.all fun q => decide (decode prog_13_method_89_code q.1 = .ok (q.2.1, q.2.2))) = true := by decide +kernel
def mn_250 : MethodName := ⟨"ReadBoundModel", "wayOf", "(III)I"⟩
theorem md_250 : (mc_250.all fun q => decide (decode prog_13_method_90_code q.1 = .ok (q.2.1, q.2.2))) = true := by decide +kernel
def mn_251 : MethodName := ⟨"ReadBoundModel", "way", "(III)I"⟩
theorem md_251 : (mc_251.all fun q => decide (decode prog_13_method_91_code q.1 = .ok (q.2.1, q.2.2))) = true := by decide +kernel
def mn_252 : MethodName := ⟨"ReadBoundModel", "step", "(I)I"⟩
theorem md_252 : (mc_252.all fun q => decide (decode prog_13_method_92_code q.1 = .ok (q.2.1, q.2.2))) = true := by decide +kernel
def mn_253 : MethodName := ⟨"ReadBoundModel", "meets", "(II)I"⟩
theorem md_253 : (mc_253.all fun q => decide (decode prog_13_method_93_code q.1 = .ok (q.2.1, q.2.2))) = true := by decide +kernel
def mn_254 : MethodName := ⟨"ReadBoundModel", "isUnread", "(III)Z"⟩
theorem md_254 : (mc_254.all fun q => decide (decode prog_13_method_94_code q.1 = .ok (q.2.1, q.2.2))) = true := by decide +kernel
def mn_255 : MethodName := ⟨"ReadBoundModel", "boards", "(III)I"⟩
theorem md_255 : (mc_255.all fun q => decide (decode prog_13_method_95_code q.1 = .ok (q.2.1, q.2.2))) = true := by decide +kernel
def mn_256 : MethodName := ⟨"ReadBoundModel", "readersOf", "(I)I"⟩
theorem md_256 : (mc_256.all fun q => decide (decode prog_13_method_96_code q.1 = .ok (q.2.1, q.2.2))) = true := by decide +kernel
def mn_257 : MethodName := ⟨"ReadBoundModel", "posts", "(II)I"⟩
theorem md_257 : (mc_257.all fun q => decide (decode prog_13_method_97_code q.1 = .ok (q.2.1, q.2.2))) = true := by decide +kernel
def mn_258 : MethodName := ⟨"ReadBoundModel", "posted", "()I"⟩
theorem md_258 : (mc_258.all fun q => decide (decode prog_13_method_98_code q.1 = .ok (q.2.1, q.2.2))) = true := by decide +kernel
def mn_259 : MethodName := ⟨"ReadBoundModel", "reads", "(I)I"⟩
theorem md_259 : (mc_259.all fun q => decide (decode prog_13_method_99_code q.1 = .ok (q.2.1, q.2.2))) = true := by decide +kernel
def mn_260 : MethodName := ⟨"ReadBoundModel", "surely", "()I"⟩
theorem md_260 : (mc_260.all fun q => decide (decode prog_13_method_100_code q.1 = .ok (q.2.1, q.2.2))) = true := by decide +kernel
def mn_261 : MethodName := ⟨"ReadBoundModel", "when", "(III)I"⟩
theorem md_261 : (mc_261.all fun q => decide (decode prog_13_method_101_code q.1 = .ok (q.2.1, q.2.2))) = true := by decide +kernel
def mn_262 : MethodName := ⟨"ReadBoundModel", "draw", "(I)I"⟩
theorem md_262 : (mc_262.all fun q => decide (decode prog_13_method_102_code q.1 = .ok (q.2.1, q.2.2))) = true := by decide +kernel
def mn_263 : MethodName := ⟨"ReadBoundModel", "draws", "(II)I"⟩
theorem md_263 : (mc_263.all fun q => decide (decode prog_13_method_103_code q.1 = .ok (q.2.1, q.2.2))) = true := by decide +kernel
def mn_264 : MethodName := ⟨"ReadBoundModel", "drawn", "(II)I"⟩
theorem md_264 : (mc_264.all fun q => decide (decode prog_13_method_104_code q.1 = .ok (q.2.1, q.2.2))) = true := by decide +kernel
def mn_265 : MethodName := ⟨"ReadBoundModel", "odds", "(III)I"⟩
theorem md_265 : (mc_265.all fun q => decide (decode prog_13_method_105_code q.1 = .ok (q.2.1, q.2.2))) = true := by decide +kernel
def mn_266 : MethodName := ⟨"ReadBoundModel", "bookLine", "()Z"⟩
theorem md_266 : (mc_266.all fun q => decide (decode prog_13_method_106_code q.1 = .ok (q.2.1, q.2.2))) = true := by decide +kernel
def mn_267 : MethodName := ⟨"ReadBoundModel", "putsName", "(III)Z"⟩
theorem md_267 : (mc_267.all fun q => decide (decode prog_13_method_107_code q.1 = .ok (q.2.1, q.2.2))) = true := by decide +kernel
def mn_268 : MethodName := ⟨"ReadBoundModel", "whyLine", "(III)I"⟩
theorem md_268 : (mc_268.all fun q => decide (decode prog_13_method_108_code q.1 = .ok (q.2.1, q.2.2))) = true := by decide +kernel
def mn_269 : MethodName := ⟨"ReadBoundModel", "livesLine", "(III)V"⟩
theorem md_269 : (mc_269.all fun q => decide (decode prog_13_method_109_code q.1 = .ok (q.2.1, q.2.2))) = true := by decide +kernel
def mn_270 : MethodName := ⟨"ReadBoundModel", "diary", "(I)I"⟩
theorem md_270 : (mc_270.all fun q => decide (decode prog_13_method_110_code q.1 = .ok (q.2.1, q.2.2))) = true := by decide +kernel
def mn_271 : MethodName := ⟨"ReadBoundModel", "told", "(I)I"⟩
theorem md_271 : (mc_271.all fun q => decide (decode prog_13_method_111_code q.1 = .ok (q.2.1, q.2.2))) = true := by decide +kernel
def mn_272 : MethodName := ⟨"ReadBoundModel", "code", "(III)V"⟩
theorem md_272 : (mc_272.all fun q => decide (decode prog_13_method_112_code q.1 = .ok (q.2.1, q.2.2))) = true := by decide +kernel
def mn_273 : MethodName := ⟨"ReadBoundModel", "joins", "(I)V"⟩
theorem md_273 : (mc_273.all fun q => decide (decode prog_13_method_113_code q.1 = .ok (q.2.1, q.2.2))) = true := by decide +kernel
def mn_274 : MethodName := ⟨"ReadBoundModel", "nots", "()V"⟩
theorem md_274 : (mc_274.all fun q => decide (decode prog_13_method_114_code q.1 = .ok (q.2.1, q.2.2))) = true := by decide +kernel
def mn_275 : MethodName := ⟨"ReadBoundModel", "leafOf", "()I"⟩
theorem md_275 : (mc_275.all fun q => decide (decode prog_13_method_115_code q.1 = .ok (q.2.1, q.2.2))) = true := by decide +kernel
def mn_276 : MethodName := ⟨"ReadBoundModel", "operand", "()Z"⟩
theorem md_276 : (mc_276.all fun q => decide (decode prog_13_method_116_code q.1 = .ok (q.2.1, q.2.2))) = true := by decide +kernel
def mn_277 : MethodName := ⟨"ReadBoundModel", "behind", "()Z"⟩
theorem md_277 : (mc_277.all fun q => decide (decode prog_13_method_117_code q.1 = .ok (q.2.1, q.2.2))) = true := by decide +kernel
def mn_278 : MethodName := ⟨"ReadBoundModel", "sentence", "()I"⟩
theorem md_278 : (mc_278.all fun q => decide (decode prog_13_method_118_code q.1 = .ok (q.2.1, q.2.2))) = true := by decide +kernel
def mn_279 : MethodName := ⟨"ReadBoundModel", "isLeaf", "(IIII)Z"⟩
theorem md_279 : (mc_279.all fun q => decide (decode prog_13_method_119_code q.1 = .ok (q.2.1, q.2.2))) = true := by decide +kernel
def mn_280 : MethodName := ⟨"ReadBoundModel", "isSaid", "(I)Z"⟩
theorem md_280 : (mc_280.all fun q => decide (decode prog_13_method_120_code q.1 = .ok (q.2.1, q.2.2))) = true := by decide +kernel
def mn_281 : MethodName := ⟨"ReadBoundModel", "said", "(I)I"⟩
theorem md_281 : (mc_281.all fun q => decide (decode prog_13_method_121_code q.1 = .ok (q.2.1, q.2.2))) = true := by decide +kernel
def mn_282 : MethodName := ⟨"ReadBoundModel", "image", "(I)Z"⟩
theorem md_282 : (mc_282.all fun q => decide (decode prog_13_method_122_code q.1 = .ok (q.2.1, q.2.2))) = true := by decide +kernel
def mn_283 : MethodName := ⟨"ReadBoundModel", "restore", "(I)Z"⟩
theorem md_283 : (mc_283.all fun q => decide (decode prog_13_method_123_code q.1 = .ok (q.2.1, q.2.2))) = true := by decide +kernel
def mn_284 : MethodName := ⟨"ReadBoundModel", "count", "(I)I"⟩
theorem md_284 : (mc_284.all fun q => decide (decode prog_13_method_124_code q.1 = .ok (q.2.1, q.2.2))) = true := by decide +kernel
def mn_285 : MethodName := ⟨"java/lang/Integer", "bitCount", "(I)I"⟩
theorem md_285 : (mc_285.all fun q => decide (decode prog_18_method_49_code q.1 = .ok (q.2.1, q.2.2))) = true := by decide +kernel
end
section
/-! resolution: constant pool numbers of a class (by its number) to fields, methods, classes, constants; with the place of the word in lw_tbl; by program -/
/-- class number, maxLocals, what it returns, is it a constructor?, its code -/
abbrev pi_M : Type := Nat × Nat × Option FieldType × Bool × List (Nat × Instr × Nat)
abbrev pi_ME : Type := MethodName × ByteArray × pi_M
def pi_fT : List (List (Nat × Nat × Nat × Nat)) := [[(9, 0, 0, 331), (15, 0, 1, 332), (19, 0, 2, 333), (23, 0, 3, 335), (26, 0, 4, 337), (29, 0, 5, 339), (39, 9, 5, 174), (56, 9, 9, 184)], [(10, 1, 0, 387), (18, 2, 0, 225), (25, 1, 1, 388), (32, 1, 2, 389), (46, 1, 3, 390)], [(11, 2, 0, 224), (15, 2, 1, 228)], [(9, 3, 0, 241), (15, 3, 1, 242), (30, 9, 5, 175), (42, 9, 9, 183), (84, 2, 0, 227), (95, 9, 8, 181)], [(11, 4, 0, 254), (15, 4, 1, 256), (79, 4, 2, 259)], [(13, 5, 0, 273), (17, 5, 2, 275), (21, 5, 1, 274)], [(9, 6, 0, 360), (15, 6, 1, 361), (18, 6, 2, 363), (21, 6, 3, 364)], [(11, 7, 0, 289), (15, 7, 1, 290), (18, 7, 2, 291), (21, 7, 3, 292), (24, 7, 4, 293), (36, 4, 0, 255), (55, 4, 1, 258)], [(9, 8, 0, 312), (15, 8, 1, 313), (19, 8, 2, 314), (23, 8, 3, 315), (42, 9, 5, 176), (51, 9, 9, 185), (84, 9, 7, 180)], [(9, 9, 0, 168), (15, 9, 1, 169), (33, 9, 2, 171), (37, 9, 3, 172), (40, 9, 4, 173), (43, 9, 10, 187), (46, 9, 11, 189), (56, 9, 7, 179), (59, 9, 8, 182), (63, 9, 9, 186), (66, 9, 5, 177), (75, 9, 6, 178)], [(12, 10, 0, 401), (19, 10, 1, 402), (23, 10, 2, 403), (31, 10, 3, 404), (37, 2, 0, 226), (44, 10, 4, 405), (48, 10, 5, 406), (54, 10, 6, 407), (61, 10, 7, 408), (65, 10, 8, 409), (73, 10, 9, 410), (80, 10, 10, 411), (87, 10, 11, 412), (91, 10, 12, 413), (97, 10, 13, 414), (101, 10, 14, 415), (104, 10, 15, 416), (107, 10, 16, 417), (111, 10, 17, 418), (115, 10, 18, 419), (118, 9, 2, 170), (129, 9, 11, 190), (145, 9, 10, 188), (163, 4, 1, 257), (237, 6, 3, 365), (240, 6, 1, 362), (290, 7, 4, 294), (304, 1, 3, 391), (317, 0, 5, 340), (320, 0, 2, 334), (323, 0, 3, 336), (326, 0, 4, 338)], [(1, 11, 0, 1247), (7, 11, 2, 1249), (14, 11, 1, 1248), (18, 11, 3, 1250), (21, 11, 4, 1251), (24, 11, 5, 1252), (33, 11, 6, 1253), (37, 11, 7, 1254), (40, 11, 8, 1255), (43, 11, 9, 1256), (47, 11, 10, 1257), (50, 11, 20, 1267), (53, 11, 21, 1268), (56, 11, 23, 1270), (59, 11, 24, 1271), (62, 11, 25, 1272), (65, 11, 33, 1280), (68, 11, 35, 1282), (71, 11, 41, 1288), (75, 11, 42, 1289), (78, 11, 43, 1290), (81, 11, 44, 1291), (146, 11, 12, 1259), (149, 11, 13, 1260), (152, 11, 11, 1258), (162, 11, 14, 1261), (165, 11, 17, 1264), (169, 11, 15, 1262), (172, 11, 16, 1263), (188, 11, 18, 1265), (235, 11, 19, 1266), (247, 11, 22, 1269), (368, 11, 26, 1273), (383, 11, 28, 1275), (387, 11, 27, 1274), (390, 11, 30, 1277), (393, 11, 29, 1276), (396, 11, 31, 1278), (406, 11, 32, 1279), (421, 11, 34, 1281), (424, 11, 36, 1283), (427, 11, 38, 1285), (433, 11, 39, 1286), (439, 11, 37, 1284), (442, 11, 40, 1287)], []]
def pi_nT : List (List (Nat × Nat × Nat)) := [[], [(7, 2, 381), (16, 4, 383), (29, 7, 385)], [], [], [], [], [], [], [], [], [(9, 9, 112), (16, 2, 218), (26, 3, 235), (35, 4, 248), (51, 5, 267), (58, 7, 283), (68, 8, 306), (77, 0, 325), (84, 6, 354), (94, 1, 375)], [], []]
def pi_lT : List (List (Nat × Int32 × Nat)) := [[], [], [], [], [(100, 1103515245, 984)], [], [], [], [], [], [], [(399, 1103515245, 1772)], [(265, 1431655765, 708), (266, 858993459, 709), (267, 252645135, 710)]]
def pi_qT : List (List (Nat × Int64 × Nat)) := [[], [], [], [], [], [], [], [], [], [(31, (32 : Int64), 167)], [], [(84, (482854658917 : Int64), 1218), (86, (1919902052 : Int64), 1219), (88, (1684366692 : Int64), 1220), (90, (7102839 : Int64), 1221), (92, (125780002955628 : Int64), 1222), (94, (7168366 : Int64), 1223), (96, (491496238692 : Int64), 1224), (98, (427020350059 : Int64), 1225), (100, (1886352244 : Int64), 1226), (102, (1735353715 : Int64), 1227), (104, (1685022067 : Int64), 1228), (106, (512801993331 : Int64), 1229), (108, (422541682035 : Int64), 1230), (110, (112585964089971 : Int64), 1231), (112, (482906174579 : Int64), 1232), (114, (491260571251 : Int64), 1233), (116, (6578553 : Int64), 1234), (118, (28530 : Int64), 1235), (120, (6385252 : Int64), 1236), (122, (7237492 : Int64), 1237), (124, (422725643876 : Int64), 1238), (126, (1718773093 : Int64), 1239), (128, (422776761956 : Int64), 1240), (130, (7168377 : Int64), 1241), (132, (26990 : Int64), 1242), (134, (495689623668 : Int64), 1243), (136, (512970876019 : Int64), 1244), (138, (6580580 : Int64), 1245), (140, (121450625394034 : Int64), 1246)], []]
def pi_iT : List (List (Nat × Nat × Nat × Nat × Nat)) := [[(3, 4, 0, 0, 330), (33, 2, 97, 1, 1004), (42, 2, 2, 0, 1005), (46, 2, 105, 1, 1028), (50, 2, 107, 0, 1009), (53, 2, 3, 0, 1010), (59, 2, 103, 1, 1019), (63, 2, 4, 0, 1015), (66, 2, 106, 2, 1027), (70, 2, 5, 3, 1022), (76, 2, 109, 2, 1021), (80, 2, 108, 2, 1014), (83, 2, 98, 0, 1020), (86, 1, 160, 3, 1026)], [(1, 4, 0, 0, 380), (9, 3, 9, 0, 382), (22, 3, 35, 1, 384), (31, 3, 79, 0, 386), (36, 2, 11, 1, 1119), (40, 2, 36, 1, 1120), (43, 2, 81, 1, 1121)], [(5, 4, 0, 0, 223), (19, 1, 161, 2, 629), (23, 8, 0, 2, 636), (29, 5, 0, 5, 637), (35, 1, 159, 2, 540), (39, 1, 160, 3, 545)], [(3, 4, 0, 0, 240), (19, 2, 10, 0, 479), (24, 2, 97, 1, 483), (34, 2, 22, 0, 512), (38, 2, 105, 1, 620), (45, 2, 23, 2, 516), (49, 2, 24, 1, 528), (53, 2, 25, 0, 548), (56, 2, 26, 0, 576), (59, 2, 27, 0, 584), (62, 2, 29, 0, 596), (65, 2, 30, 0, 600), (68, 2, 98, 0, 527), (71, 2, 31, 0, 604), (74, 2, 33, 0, 612), (77, 2, 34, 0, 616), (80, 2, 103, 1, 523), (88, 1, 159, 2, 520), (92, 2, 107, 0, 532), (99, 2, 12, 1, 536), (103, 2, 14, 2, 541), (107, 2, 109, 2, 552), (111, 2, 108, 2, 566), (114, 2, 16, 2, 567), (117, 2, 15, 2, 571), (121, 1, 160, 3, 575), (125, 2, 106, 2, 580), (129, 2, 28, 1, 588), (132, 2, 104, 1, 592), (135, 2, 32, 1, 608)], [(5, 4, 0, 0, 253), (18, 1, 161, 2, 943), (24, 1, 159, 2, 642), (28, 1, 160, 3, 643), (32, 2, 41, 1, 644), (36, 2, 42, 2, 648), (40, 8, 0, 2, 652), (46, 9, 0, 2, 653), (49, 2, 44, 2, 752), (52, 2, 60, 1, 760), (56, 2, 63, 1, 764), (59, 2, 38, 0, 735), (63, 2, 45, 2, 756), (67, 2, 47, 1, 782), (70, 2, 48, 2, 786), (73, 2, 50, 0, 818), (76, 2, 51, 1, 822), (83, 2, 54, 1, 980), (86, 2, 43, 3, 985), (90, 2, 46, 3, 986), (94, 2, 53, 1, 987), (97, 2, 49, 1, 991), (101, 2, 56, 1, 727), (104, 2, 57, 1, 731), (107, 2, 55, 2, 736), (110, 2, 59, 1, 723), (113, 2, 39, 2, 768), (116, 0, 285, 1, 705), (121, 2, 69, 1, 681)], [(3, 4, 0, 0, 272), (24, 8, 0, 2, 776), (30, 5, 0, 5, 777)], [(3, 4, 0, 0, 359), (25, 1, 160, 3, 895), (29, 2, 76, 1, 896), (33, 2, 77, 2, 901), (39, 1, 159, 2, 900), (43, 0, 78, 1, 905)], [(3, 4, 0, 0, 288), (28, 1, 161, 2, 1082), (32, 1, 160, 3, 1068), (43, 1, 159, 2, 1091), (47, 2, 84, 2, 1092), (51, 2, 85, 3, 1096), (58, 2, 59, 1, 1100), (62, 2, 60, 1, 1101), (65, 2, 86, 2, 1102), (69, 2, 63, 1, 1106)], [(3, 4, 0, 0, 311), (27, 2, 80, 0, 1046), (32, 2, 97, 1, 1047), (38, 2, 89, 1, 1048), (45, 2, 103, 1, 1057), (48, 2, 90, 1, 1052), (54, 2, 98, 0, 1058), (57, 2, 82, 3, 1064), (61, 2, 104, 1, 1056), (65, 2, 105, 1, 1059), (68, 2, 91, 1, 1060), (73, 2, 92, 2, 1069), (77, 2, 93, 1, 1074), (80, 2, 108, 2, 1073)], [(3, 4, 0, 0, 117), (21, 6, 0, 0, 119), (27, 7, 0, 1, 129), (49, 2, 98, 0, 487), (52, 2, 96, 1, 491), (69, 8, 0, 2, 495), (78, 0, 101, 1, 498), (82, 0, 102, 1, 501), (85, 2, 99, 1, 504), (89, 2, 100, 1, 508), (93, 2, 104, 1, 624), (97, 2, 103, 1, 561), (100, 2, 107, 0, 560), (104, 2, 13, 2, 562), (110, 2, 108, 2, 556)], [(3, 4, 0, 0, 109), (11, 3, 94, 0, 114), (18, 3, 9, 0, 220), (28, 3, 20, 2, 237), (41, 3, 35, 1, 250), (53, 3, 70, 0, 269), (60, 3, 79, 0, 285), (70, 3, 87, 3, 308), (79, 3, 0, 2, 327), (86, 3, 74, 1, 356), (96, 3, 6, 0, 377), (121, 2, 95, 1, 463), (125, 2, 21, 0, 475), (132, 2, 11, 1, 625), (136, 2, 37, 0, 638), (139, 2, 80, 0, 656), (142, 2, 71, 0, 660), (148, 2, 152, 2, 672), (152, 0, 159, 2, 676), (156, 2, 68, 1, 677), (166, 2, 67, 1, 689), (169, 2, 38, 0, 697), (172, 2, 64, 0, 701), (175, 2, 65, 0, 711), (178, 2, 66, 0, 715), (181, 2, 62, 0, 719), (184, 2, 156, 3, 744), (188, 8, 0, 2, 632), (194, 2, 72, 1, 772), (197, 2, 49, 1, 814), (200, 2, 73, 1, 830), (204, 2, 154, 2, 838), (207, 2, 39, 2, 842), (210, 2, 55, 2, 847), (213, 2, 59, 1, 852), (216, 2, 60, 1, 857), (219, 2, 58, 1, 862), (222, 2, 61, 1, 870), (225, 2, 40, 2, 878), (228, 2, 153, 2, 886), (231, 2, 69, 1, 890), (234, 2, 75, 3, 891), (243, 2, 56, 1, 916), (246, 2, 16, 2, 921), (249, 2, 151, 1, 922), (252, 0, 285, 1, 926), (257, 2, 17, 3, 927), (261, 2, 157, 2, 935), (264, 2, 18, 1, 952), (267, 2, 36, 1, 939), (270, 2, 19, 1, 968), (273, 2, 52, 2, 976), (277, 2, 1, 0, 1000), (280, 2, 158, 1, 1029), (284, 2, 88, 0, 1042), (287, 2, 81, 1, 1078), (293, 2, 83, 1, 1087), (296, 2, 155, 1, 1111), (300, 2, 7, 3, 1115), (307, 2, 8, 3, 1126), (310, 2, 43, 3, 748), (313, 2, 46, 3, 778), (329, 0, 160, 3, 1033), (333, 5, 0, 5, 633)], [(10, 2, 164, 1, 1204), (27, 4, 0, 0, 1217), (142, 2, 173, 0, 1396), (155, 0, 174, 1, 1400), (159, 0, 175, 1, 1403), (175, 2, 179, 1, 1460), (178, 2, 177, 1, 1414), (181, 2, 176, 0, 1392), (184, 0, 167, 3, 1457), (191, 2, 182, 2, 1453), (195, 2, 181, 0, 1422), (199, 2, 184, 2, 1426), (203, 2, 186, 2, 1438), (206, 2, 178, 1, 1410), (210, 2, 185, 1, 1418), (213, 2, 189, 0, 1430), (216, 2, 190, 1, 1445), (220, 2, 187, 2, 1434), (223, 2, 183, 3, 1449), (226, 2, 191, 0, 1464), (229, 0, 168, 2, 1442), (232, 2, 166, 1, 1388), (238, 2, 188, 0, 1406), (241, 2, 180, 1, 1468), (244, 2, 201, 1, 1472), (250, 0, 198, 2, 1480), (253, 0, 169, 2, 1483), (256, 2, 199, 3, 1486), (260, 0, 170, 2, 1490), (263, 2, 200, 2, 1476), (267, 2, 202, 2, 1544), (270, 2, 203, 2, 1548), (273, 2, 204, 2, 1540), (276, 2, 205, 1, 1536), (280, 2, 206, 1, 1588), (283, 2, 196, 1, 1501), (286, 2, 197, 1, 1509), (289, 2, 162, 1, 1513), (292, 2, 194, 1, 1521), (295, 0, 171, 1, 1529), (298, 2, 212, 0, 1532), (301, 2, 215, 2, 1568), (304, 2, 207, 1, 1584), (307, 2, 208, 1, 1616), (310, 2, 227, 1, 1660), (313, 2, 228, 0, 1656), (316, 2, 214, 2, 1556), (319, 2, 237, 0, 1560), (322, 2, 216, 2, 1564), (325, 2, 195, 1, 1576), (328, 2, 217, 2, 1580), (331, 2, 218, 1, 1592), (334, 2, 219, 2, 1600), (337, 2, 220, 2, 1604), (340, 2, 221, 1, 1612), (343, 2, 222, 1, 1620), (346, 2, 223, 2, 1628), (349, 2, 224, 2, 1632), (352, 2, 225, 1, 1640), (355, 2, 226, 1, 1644), (358, 2, 229, 1, 1652), (361, 2, 249, 2, 1708), (364, 2, 250, 3, 1704), (371, 2, 239, 0, 1724), (374, 2, 254, 3, 1728), (377, 2, 240, 0, 1732), (380, 2, 256, 1, 1740), (400, 2, 262, 1, 1768), (403, 2, 263, 2, 1764), (409, 2, 267, 3, 1785), (412, 2, 266, 0, 1781), (415, 2, 268, 3, 1789), (418, 2, 269, 3, 1793), (430, 2, 272, 3, 1809), (436, 2, 275, 0, 1825), (445, 2, 274, 0, 1805), (448, 2, 273, 1, 1813), (451, 2, 277, 0, 1817), (454, 2, 276, 0, 1821), (457, 2, 279, 4, 1837), (461, 2, 280, 1, 1833)], []]
def pi_nest : List Cond := [.methodLinkNest "ReadBound$LandReader" 88 ⟨"ReadBound", "at", "([II)I"⟩ "ReadBound", .methodLinkNest "ReadBound$Land" 35 ⟨"ReadBound", "at", "([II)I"⟩ "ReadBound", .methodLinkNest "ReadBound$Land" 39 ⟨"ReadBound", "put", "([III)V"⟩ "ReadBound", .methodLinkNest "ReadBound$LandReader" 121 ⟨"ReadBound", "put", "([III)V"⟩ "ReadBound", .methodLinkNest "ReadBound$Land" 19 ⟨"ReadBound", "copy", "([I[I)V"⟩ "ReadBound", .methodLinkNest "ReadBound$Life" 24 ⟨"ReadBound", "at", "([II)I"⟩ "ReadBound", .methodLinkNest "ReadBound$Life" 28 ⟨"ReadBound", "put", "([III)V"⟩ "ReadBound", .methodLinkNest "ReadBound$Route" 25 ⟨"ReadBound", "put", "([III)V"⟩ "ReadBound", .methodLinkNest "ReadBound$Route" 39 ⟨"ReadBound", "at", "([II)I"⟩ "ReadBound", .methodLinkNest "ReadBound$Life" 18 ⟨"ReadBound", "copy", "([I[I)V"⟩ "ReadBound", .methodLinkNest "ReadBound$Diary" 86 ⟨"ReadBound", "put", "([III)V"⟩ "ReadBound", .methodLinkNest "ReadBound$Sentence" 32 ⟨"ReadBound", "put", "([III)V"⟩ "ReadBound", .methodLinkNest "ReadBound$Sentence" 28 ⟨"ReadBound", "copy", "([I[I)V"⟩ "ReadBound", .methodLinkNest "ReadBound$Sentence" 43 ⟨"ReadBound", "at", "([II)I"⟩ "ReadBound"]
/-- what is asked of a method's row: its words are in the table, its code decodes so -/
def pi_okM (e : pi_ME) (n : Nat) (st : Bool) : Prop := match e with
  | (y, cc, own, nL, ret, ini, tab) => plainName y.cls = true ∧ pi_cn[own]? = some y.cls ∧ Cond.code y cc nL ret ∈ lw_tbl ∧ Cond.initialized y.cls ∈ lw_tbl ∧ (st = true → Cond.static y ∈ lw_tbl) ∧ (st = false → Cond.instanceMethod y ∈ lw_tbl) ∧ (st = false → ini = false → Cond.selects y.cls y y ∈ lw_tbl) ∧ y.cls ≠ "java/lang/invoke/MethodHandle" ∧ y.cls ≠ "java/lang/invoke/VarHandle" ∧ (parseMethodDescriptor y.desc).map (fun d => d.parameters.length) = some n ∧ (ini = true → y.name = "<init>") ∧ (tab.all fun q => decide (decode cc q.1 = .ok (q.2.1, q.2.2))) = true
def pi_mt_0 : List pi_ME := [(mn_0, prog_2_method_1_code, (0, 3, none, true, mc_0)),
  (mn_1, prog_2_method_2_code, (0, 2, (some .boolean), false, mc_1)),
  (mn_2, prog_2_method_3_code, (0, 3, (some .boolean), false, mc_2)),
  (mn_3, prog_2_method_4_code, (0, 3, (some .boolean), false, mc_3)),
  (mn_4, prog_2_method_5_code, (0, 1, (some .boolean), false, mc_4)),
  (mn_5, prog_2_method_6_code, (0, 4, (some .boolean), false, mc_5)),
  (mn_6, prog_3_method_1_code, (1, 1, none, true, mc_6)),
  (mn_7, prog_3_method_2_code, (1, 4, none, false, mc_7)),
  (mn_8, prog_3_method_3_code, (1, 4, none, false, mc_8)),
  (mn_9, prog_4_method_1_code, (2, 1, none, true, mc_9)),
  (mn_10, prog_4_method_2_code, (2, 2, none, false, mc_10)),
  (mn_11, prog_4_method_3_code, (2, 2, none, false, mc_11)),
  (mn_12, prog_4_method_4_code, (2, 4, (some .boolean), false, mc_12)),
  (mn_13, prog_4_method_5_code, (2, 5, (some .int), false, mc_13)),
  (mn_14, prog_4_method_6_code, (2, 6, (some .int), false, mc_14)),
  (mn_15, prog_4_method_7_code, (2, 3, none, false, mc_15)),
  (mn_16, prog_4_method_8_code, (2, 3, (some .boolean), false, mc_16)),
  (mn_17, prog_4_method_9_code, (2, 8, (some .boolean), false, mc_17)),
  (mn_18, prog_4_method_10_code, (2, 4, (some .int), false, mc_18)),
  (mn_19, prog_4_method_11_code, (2, 6, (some .int), false, mc_19)),
  (mn_20, prog_5_method_1_code, (3, 3, none, true, mc_20)),
  (mn_21, prog_5_method_2_code, (3, 2, (some .int), false, mc_21)),
  (mn_22, prog_5_method_3_code, (3, 1, (some .boolean), false, mc_22)),
  (mn_23, prog_5_method_4_code, (3, 3, (some .boolean), false, mc_23)),
  (mn_24, prog_5_method_5_code, (3, 3, (some .int), false, mc_24)),
  (mn_25, prog_5_method_6_code, (3, 3, (some .boolean), false, mc_25)),
  (mn_26, prog_5_method_7_code, (3, 3, (some .boolean), false, mc_26)),
  (mn_27, prog_5_method_8_code, (3, 3, (some .boolean), false, mc_27)),
  (mn_28, prog_5_method_9_code, (3, 3, (some .boolean), false, mc_28)),
  (mn_29, prog_5_method_10_code, (3, 3, (some .boolean), false, mc_29)),
  (mn_30, prog_5_method_11_code, (3, 4, (some .boolean), false, mc_30)),
  (mn_31, prog_5_method_12_code, (3, 3, (some .boolean), false, mc_31)),
  (mn_32, prog_5_method_13_code, (3, 4, (some .boolean), false, mc_32)),
  (mn_33, prog_5_method_14_code, (3, 3, (some .boolean), false, mc_33)),
  (mn_34, prog_5_method_15_code, (3, 3, (some .boolean), false, mc_34)),
  (mn_35, prog_6_method_1_code, (4, 2, none, true, mc_35)),
  (mn_36, prog_6_method_2_code, (4, 2, none, false, mc_36)),
  (mn_37, prog_6_method_3_code, (4, 2, none, false, mc_37)),
  (mn_38, prog_6_method_4_code, (4, 1, (some .int), false, mc_38)),
  (mn_39, prog_6_method_5_code, (4, 3, (some .int), false, mc_39)),
  (mn_40, prog_6_method_6_code, (4, 3, (some .int), false, mc_40)),
  (mn_41, prog_6_method_7_code, (4, 4, none, false, mc_41)),
  (mn_42, prog_6_method_8_code, (4, 7, none, false, mc_42)),
  (mn_43, prog_6_method_9_code, (4, 4, (some .int), false, mc_43)),
  (mn_44, prog_6_method_10_code, (4, 3, (some .int), false, mc_44)),
  (mn_45, prog_6_method_11_code, (4, 3, (some .boolean), false, mc_45)),
  (mn_46, prog_6_method_12_code, (4, 4, none, false, mc_46)),
  (mn_47, prog_6_method_13_code, (4, 3, none, false, mc_47))]
def pi_mk_0 : List (Nat × Bool) := [(2, false), (0, false), (0, false), (0, false), (0, false), (3, false), (0, false), (3, false), (3, false), (0, false), (0, false), (1, false), (1, false), (2, false), (2, false), (2, false), (2, false), (3, false), (1, false), (1, false), (2, false), (0, false), (0, false), (2, false), (1, false), (0, false), (0, false), (0, false), (1, false), (0, false), (0, false), (0, false), (1, false), (0, false), (0, false), (1, false), (1, false), (0, false), (0, false), (2, false), (2, false), (1, false), (2, false), (3, false), (2, false), (2, false), (3, false), (1, false)]
def pi_mt_1 : List pi_ME := [(mn_48, prog_6_method_14_code, (4, 4, none, false, mc_48)),
  (mn_49, prog_6_method_15_code, (4, 5, none, false, mc_49)),
  (mn_50, prog_6_method_16_code, (4, 6, none, false, mc_50)),
  (mn_51, prog_6_method_17_code, (4, 5, none, false, mc_51)),
  (mn_52, prog_6_method_18_code, (4, 5, none, false, mc_52)),
  (mn_53, prog_6_method_19_code, (4, 3, none, false, mc_53)),
  (mn_54, prog_6_method_20_code, (4, 2, (some .int), false, mc_54)),
  (mn_55, prog_6_method_21_code, (4, 5, (some .int), false, mc_55)),
  (mn_56, prog_6_method_22_code, (4, 5, (some .int), false, mc_56)),
  (mn_57, prog_6_method_23_code, (4, 5, (some .int), false, mc_57)),
  (mn_58, prog_6_method_24_code, (4, 3, (some .int), false, mc_58)),
  (mn_59, prog_6_method_25_code, (4, 7, (some .int), false, mc_59)),
  (mn_60, prog_6_method_26_code, (4, 5, (some .int), false, mc_60)),
  (mn_61, prog_6_method_27_code, (4, 4, (some .int), false, mc_61)),
  (mn_62, prog_6_method_28_code, (4, 3, (some .int), false, mc_62)),
  (mn_63, prog_6_method_29_code, (4, 4, (some .int), false, mc_63)),
  (mn_64, prog_6_method_30_code, (4, 3, (some .int), false, mc_64)),
  (mn_65, prog_6_method_31_code, (4, 3, (some .int), false, mc_65)),
  (mn_66, prog_6_method_32_code, (4, 3, (some .int), false, mc_66)),
  (mn_67, prog_6_method_33_code, (4, 4, (some .int), false, mc_67)),
  (mn_68, prog_6_method_34_code, (4, 2, (some .int), false, mc_68)),
  (mn_69, prog_6_method_35_code, (4, 4, (some .int), false, mc_69)),
  (mn_70, prog_7_method_1_code, (5, 1, none, true, mc_70)),
  (mn_71, prog_7_method_2_code, (5, 1, none, false, mc_71)),
  (mn_72, prog_7_method_3_code, (5, 2, none, false, mc_72)),
  (mn_73, prog_7_method_4_code, (5, 2, (some .int), false, mc_73)),
  (mn_74, prog_8_method_1_code, (6, 2, none, true, mc_74)),
  (mn_75, prog_8_method_2_code, (6, 8, (some .int), false, mc_75)),
  (mn_76, prog_8_method_3_code, (6, 4, (some .int), false, mc_76)),
  (mn_77, prog_8_method_4_code, (6, 6, none, false, mc_77)),
  (mn_78, prog_8_method_5_code, (6, 2, (some .int), false, mc_78)),
  (mn_79, prog_9_method_1_code, (7, 1, none, true, mc_79)),
  (mn_80, prog_9_method_2_code, (7, 1, none, false, mc_80)),
  (mn_81, prog_9_method_3_code, (7, 2, none, false, mc_81)),
  (mn_82, prog_9_method_4_code, (7, 4, none, false, mc_82)),
  (mn_83, prog_9_method_5_code, (7, 6, (some .int), false, mc_83)),
  (mn_84, prog_9_method_6_code, (7, 5, (some .int), false, mc_84)),
  (mn_85, prog_9_method_7_code, (7, 5, (some .boolean), false, mc_85)),
  (mn_86, prog_9_method_8_code, (7, 4, (some .boolean), false, mc_86)),
  (mn_87, prog_10_method_1_code, (8, 4, none, true, mc_87)),
  (mn_88, prog_10_method_2_code, (8, 1, (some .int), false, mc_88)),
  (mn_89, prog_10_method_3_code, (8, 4, (some .boolean), false, mc_89)),
  (mn_90, prog_10_method_4_code, (8, 4, (some .boolean), false, mc_90)),
  (mn_91, prog_10_method_5_code, (8, 2, (some .boolean), false, mc_91)),
  (mn_92, prog_10_method_6_code, (8, 4, (some .boolean), false, mc_92)),
  (mn_93, prog_10_method_7_code, (8, 3, (some .boolean), false, mc_93)),
  (mn_94, prog_11_method_1_code, (9, 4, none, true, mc_94)),
  (mn_95, prog_11_method_2_code, (9, 3, none, false, mc_95))]
def pi_mk_1 : List (Nat × Bool) := [(2, false), (1, false), (0, false), (1, false), (2, false), (1, false), (1, false), (2, false), (1, false), (1, false), (1, false), (1, false), (1, false), (1, false), (0, false), (1, false), (0, false), (0, false), (0, false), (1, false), (1, false), (1, false), (0, false), (0, false), (1, false), (1, false), (1, false), (3, false), (1, false), (2, false), (1, true), (0, false), (0, false), (1, false), (3, false), (1, false), (2, false), (3, false), (2, false), (3, false), (0, false), (1, false), (1, false), (1, false), (2, false), (1, false), (0, false), (1, false)]
def pi_mt_2 : List pi_ME := [(mn_96, prog_11_method_3_code, (9, 2, (some .int), false, mc_96)),
  (mn_97, prog_11_method_4_code, (9, 2, none, false, mc_97)),
  (mn_98, prog_11_method_5_code, (9, 3, none, false, mc_98)),
  (mn_99, prog_11_method_6_code, (9, 6, none, false, mc_99)),
  (mn_100, prog_11_method_7_code, (9, 4, (some .int), false, mc_100)),
  (mn_101, prog_11_method_8_code, (9, 1, (some .boolean), false, mc_101)),
  (mn_102, prog_11_method_9_code, (9, 1, (some .boolean), false, mc_102)),
  (mn_103, prog_11_method_10_code, (9, 2, (some .boolean), false, mc_103)),
  (mn_104, prog_11_method_11_code, (9, 2, (some .boolean), false, mc_104)),
  (mn_105, prog_11_method_12_code, (9, 2, (some .boolean), false, mc_105)),
  (mn_106, prog_11_method_13_code, (9, 4, (some .int), false, mc_106)),
  (mn_107, prog_11_method_14_code, (9, 1, (some .boolean), false, mc_107)),
  (mn_108, prog_11_method_15_code, (9, 4, (some .int), false, mc_108)),
  (mn_109, prog_11_method_16_code, (9, 4, (some .int), false, mc_109)),
  (mn_110, prog_1_method_1_code, (10, 1, none, true, mc_110)),
  (mn_111, prog_1_method_2_code, (10, 6, (some .int), false, mc_111)),
  (mn_112, prog_1_method_3_code, (10, 2, (some .boolean), false, mc_112)),
  (mn_113, prog_1_method_4_code, (10, 2, (some .int), false, mc_113)),
  (mn_114, prog_1_method_5_code, (10, 1, (some .int), false, mc_114)),
  (mn_115, prog_1_method_6_code, (10, 3, (some .int), false, mc_115)),
  (mn_116, prog_1_method_8_code, (10, 3, (some .int), false, mc_116)),
  (mn_117, prog_1_method_9_code, (10, 2, (some .int), false, mc_117)),
  (mn_118, prog_1_method_10_code, (10, 3, (some .int), false, mc_118)),
  (mn_119, prog_1_method_11_code, (10, 3, (some .int), false, mc_119)),
  (mn_120, prog_1_method_12_code, (10, 3, (some .int), false, mc_120)),
  (mn_121, prog_1_method_13_code, (10, 2, (some .int), false, mc_121)),
  (mn_122, prog_1_method_14_code, (10, 3, (some .int), false, mc_122)),
  (mn_123, prog_1_method_15_code, (10, 2, (some .int), false, mc_123)),
  (mn_124, prog_1_method_16_code, (10, 3, (some .int), false, mc_124)),
  (mn_125, prog_1_method_17_code, (10, 1, (some .int), false, mc_125)),
  (mn_126, prog_1_method_18_code, (10, 3, (some .int), false, mc_126)),
  (mn_127, prog_1_method_19_code, (10, 3, (some .int), false, mc_127)),
  (mn_128, prog_1_method_20_code, (10, 2, (some .int), false, mc_128)),
  (mn_129, prog_1_method_21_code, (10, 2, (some .int), false, mc_129)),
  (mn_130, prog_1_method_22_code, (10, 2, (some .int), false, mc_130)),
  (mn_131, prog_1_method_23_code, (10, 2, (some .int), false, mc_131)),
  (mn_132, prog_1_method_24_code, (10, 3, (some .int), false, mc_132)),
  (mn_133, prog_1_method_25_code, (10, 4, (some .int), false, mc_133)),
  (mn_134, prog_1_method_26_code, (10, 2, (some .int), false, mc_134)),
  (mn_135, prog_1_method_27_code, (10, 6, (some .int), false, mc_135)),
  (mn_136, prog_1_method_28_code, (10, 9, (some .int), false, mc_136)),
  (mn_137, prog_1_method_29_code, (10, 8, (some .int), false, mc_137)),
  (mn_138, prog_1_method_30_code, (10, 1, (some .int), false, mc_138)),
  (mn_139, prog_1_method_31_code, (10, 5, (some .int), false, mc_139)),
  (mn_140, prog_1_method_32_code, (10, 1, (some .int), false, mc_140)),
  (mn_141, prog_1_method_33_code, (10, 5, (some .int), false, mc_141)),
  (mn_142, prog_1_method_34_code, (10, 2, (some .int), false, mc_142)),
  (mn_143, prog_1_method_35_code, (10, 4, (some .int), false, mc_143))]
def pi_mk_2 : List (Nat × Bool) := [(1, false), (1, false), (0, false), (1, false), (1, false), (1, true), (1, true), (1, false), (1, false), (1, false), (2, false), (0, false), (2, false), (2, false), (0, false), (5, false), (1, false), (0, false), (0, false), (2, false), (2, false), (1, false), (2, false), (2, false), (2, false), (1, false), (2, false), (1, false), (1, false), (0, false), (2, false), (2, false), (1, false), (1, false), (1, false), (1, false), (2, false), (3, false), (1, false), (2, false), (3, false), (2, false), (0, false), (1, false), (0, false), (3, false), (1, false), (2, false)]
def pi_mt_3 : List pi_ME := [(mn_144, prog_1_method_36_code, (10, 6, (some .int), false, mc_144)),
  (mn_145, prog_1_method_37_code, (10, 3, (some .int), false, mc_145)),
  (mn_146, prog_1_method_38_code, (10, 2, (some .int), false, mc_146)),
  (mn_147, prog_1_method_39_code, (10, 2, (some .int), false, mc_147)),
  (mn_148, prog_1_method_40_code, (10, 5, (some .int), false, mc_148)),
  (mn_149, prog_1_method_41_code, (10, 2, (some .boolean), false, mc_149)),
  (mn_150, prog_1_method_42_code, (10, 2, (some .boolean), false, mc_150)),
  (mn_151, prog_1_method_43_code, (10, 2, (some .int), false, mc_151)),
  (mn_152, prog_1_method_44_code, (10, 3, (some .boolean), false, mc_152)),
  (mn_153, prog_1_method_45_code, (10, 3, (some .boolean), false, mc_153)),
  (mn_154, prog_1_method_46_code, (10, 3, (some .boolean), false, mc_154)),
  (mn_155, prog_1_method_47_code, (10, 2, (some (.object "ReadBound$Image")), false, mc_155)),
  (mn_156, prog_1_method_48_code, (10, 5, (some .int), false, mc_156)),
  (mn_157, prog_1_method_49_code, (10, 5, (some .int), false, mc_157)),
  (mn_158, prog_1_method_50_code, (10, 8, (some .int), false, mc_158)),
  (mn_159, prog_1_method_51_code, (10, 2, (some .int), false, mc_159)),
  (mn_160, prog_1_method_52_code, (10, 3, none, false, mc_160)),
  (mn_161, prog_1_method_53_code, (10, 2, none, false, mc_161)),
  (mn_162, prog_13_method_2_code, (11, 2, (some .boolean), false, mc_162)),
  (mn_163, prog_13_method_3_code, (11, 6, (some .int), false, mc_163)),
  (mn_164, prog_13_method_4_code, (11, 3, none, false, mc_164)),
  (mn_165, prog_13_method_5_code, (11, 2, (some .boolean), false, mc_165)),
  (mn_166, prog_13_method_6_code, (11, 2, none, false, mc_166)),
  (mn_167, prog_13_method_7_code, (11, 3, (some .boolean), false, mc_167)),
  (mn_168, prog_13_method_8_code, (11, 2, (some .boolean), false, mc_168)),
  (mn_169, prog_13_method_9_code, (11, 2, (some .int), false, mc_169)),
  (mn_170, prog_13_method_10_code, (11, 2, (some .int), false, mc_170)),
  (mn_171, prog_13_method_11_code, (11, 3, (some .int), false, mc_171)),
  (mn_172, prog_13_method_12_code, (11, 1, none, true, mc_172)),
  (mn_173, prog_13_method_13_code, (11, 1, (some .int), false, mc_173)),
  (mn_174, prog_13_method_14_code, (11, 1, (some .boolean), false, mc_174)),
  (mn_175, prog_13_method_15_code, (11, 1, (some .boolean), false, mc_175)),
  (mn_176, prog_13_method_16_code, (11, 4, none, false, mc_176)),
  (mn_177, prog_13_method_17_code, (11, 2, (some .boolean), false, mc_177)),
  (mn_178, prog_13_method_18_code, (11, 3, (some .boolean), false, mc_178)),
  (mn_179, prog_13_method_19_code, (11, 2, (some .boolean), false, mc_179)),
  (mn_180, prog_13_method_20_code, (11, 2, (some .boolean), false, mc_180)),
  (mn_181, prog_13_method_21_code, (11, 3, (some .boolean), false, mc_181)),
  (mn_182, prog_13_method_22_code, (11, 3, (some .boolean), false, mc_182)),
  (mn_183, prog_13_method_23_code, (11, 4, (some .boolean), false, mc_183)),
  (mn_184, prog_13_method_24_code, (11, 4, (some .int), false, mc_184)),
  (mn_185, prog_13_method_25_code, (11, 2, (some .boolean), false, mc_185)),
  (mn_186, prog_13_method_26_code, (11, 3, (some .boolean), false, mc_186)),
  (mn_187, prog_13_method_27_code, (11, 3, (some .boolean), false, mc_187)),
  (mn_188, prog_13_method_28_code, (11, 2, (some .boolean), false, mc_188)),
  (mn_189, prog_13_method_29_code, (11, 2, (some .boolean), false, mc_189)),
  (mn_190, prog_13_method_30_code, (11, 3, (some .boolean), false, mc_190)),
  (mn_191, prog_13_method_31_code, (11, 3, (some .boolean), false, mc_191))]
def pi_mk_3 : List (Nat × Bool) := [(3, false), (1, false), (1, false), (0, false), (1, false), (1, false), (1, false), (1, false), (2, false), (2, false), (2, false), (1, false), (3, false), (2, false), (1, false), (2, true), (3, true), (2, true), (1, false), (5, false), (1, false), (1, false), (1, false), (3, true), (2, true), (2, true), (2, true), (1, true), (0, false), (0, false), (1, true), (1, true), (0, false), (1, false), (1, false), (1, false), (1, false), (0, false), (2, false), (3, false), (2, false), (1, false), (2, false), (2, false), (0, false), (0, false), (1, false), (0, false)]
def pi_mt_4 : List pi_ME := [(mn_192, prog_13_method_32_code, (11, 2, (some .int), false, mc_192)),
  (mn_193, prog_13_method_33_code, (11, 1, (some .int), false, mc_193)),
  (mn_194, prog_13_method_34_code, (11, 2, (some .boolean), false, mc_194)),
  (mn_195, prog_13_method_35_code, (11, 2, (some .boolean), false, mc_195)),
  (mn_196, prog_13_method_36_code, (11, 2, (some .boolean), false, mc_196)),
  (mn_197, prog_13_method_37_code, (11, 2, (some .boolean), false, mc_197)),
  (mn_198, prog_13_method_38_code, (11, 2, (some .int), false, mc_198)),
  (mn_199, prog_13_method_39_code, (11, 4, none, false, mc_199)),
  (mn_200, prog_13_method_40_code, (11, 5, none, false, mc_200)),
  (mn_201, prog_13_method_41_code, (11, 3, none, false, mc_201)),
  (mn_202, prog_13_method_42_code, (11, 4, (some .int), false, mc_202)),
  (mn_203, prog_13_method_43_code, (11, 4, (some .boolean), false, mc_203)),
  (mn_204, prog_13_method_44_code, (11, 4, (some .boolean), false, mc_204)),
  (mn_205, prog_13_method_45_code, (11, 4, (some .int), false, mc_205)),
  (mn_206, prog_13_method_46_code, (11, 4, (some .int), false, mc_206)),
  (mn_207, prog_13_method_47_code, (11, 2, (some .int), false, mc_207)),
  (mn_208, prog_13_method_48_code, (11, 4, (some .int), false, mc_208)),
  (mn_209, prog_13_method_49_code, (11, 5, (some .int), false, mc_209)),
  (mn_210, prog_13_method_50_code, (11, 3, (some .int), false, mc_210)),
  (mn_211, prog_13_method_51_code, (11, 5, (some .int), false, mc_211)),
  (mn_212, prog_13_method_52_code, (11, 3, (some .int), false, mc_212)),
  (mn_213, prog_13_method_53_code, (11, 4, (some .int), false, mc_213)),
  (mn_214, prog_13_method_54_code, (11, 3, (some .int), false, mc_214)),
  (mn_215, prog_13_method_55_code, (11, 3, none, false, mc_215)),
  (mn_216, prog_13_method_56_code, (11, 3, none, false, mc_216)),
  (mn_217, prog_13_method_57_code, (11, 3, (some .int), false, mc_217)),
  (mn_218, prog_13_method_58_code, (11, 2, none, false, mc_218)),
  (mn_219, prog_13_method_59_code, (11, 3, (some .int), false, mc_219)),
  (mn_220, prog_13_method_60_code, (11, 3, none, false, mc_220)),
  (mn_221, prog_13_method_61_code, (11, 2, (some .int), false, mc_221)),
  (mn_222, prog_13_method_62_code, (11, 3, none, false, mc_222)),
  (mn_223, prog_13_method_63_code, (11, 3, (some .int), false, mc_223)),
  (mn_224, prog_13_method_64_code, (11, 4, none, false, mc_224)),
  (mn_225, prog_13_method_65_code, (11, 2, (some .int), false, mc_225)),
  (mn_226, prog_13_method_66_code, (11, 2, none, false, mc_226)),
  (mn_227, prog_13_method_67_code, (11, 4, none, false, mc_227)),
  (mn_228, prog_13_method_68_code, (11, 2, none, false, mc_228)),
  (mn_229, prog_13_method_69_code, (11, 3, (some .int), false, mc_229)),
  (mn_230, prog_13_method_70_code, (11, 4, (some .int), false, mc_230)),
  (mn_231, prog_13_method_71_code, (11, 3, (some .int), false, mc_231)),
  (mn_232, prog_13_method_72_code, (11, 3, (some .int), false, mc_232)),
  (mn_233, prog_13_method_73_code, (11, 2, (some .int), false, mc_233)),
  (mn_234, prog_13_method_74_code, (11, 3, (some .int), false, mc_234)),
  (mn_235, prog_13_method_75_code, (11, 2, (some .int), false, mc_235)),
  (mn_236, prog_13_method_76_code, (11, 2, (some .int), false, mc_236)),
  (mn_237, prog_13_method_77_code, (11, 2, none, false, mc_237)),
  (mn_238, prog_13_method_78_code, (11, 2, (some .int), false, mc_238)),
  (mn_239, prog_13_method_79_code, (11, 2, none, false, mc_239))]
def pi_mk_4 : List (Nat × Bool) := [(0, false), (0, false), (1, false), (1, false), (1, false), (1, false), (2, true), (3, false), (2, false), (1, false), (2, false), (2, false), (2, false), (1, false), (1, false), (1, false), (1, false), (2, false), (2, false), (2, false), (0, false), (1, false), (2, false), (2, false), (2, false), (2, false), (1, false), (2, false), (2, false), (1, false), (1, false), (2, false), (2, false), (1, false), (1, false), (1, false), (0, false), (1, false), (2, false), (2, false), (2, false), (1, false), (2, false), (1, false), (1, false), (0, false), (0, false), (0, false)]
def pi_mt_5 : List pi_ME := [(mn_240, prog_13_method_80_code, (11, 2, none, false, mc_240)),
  (mn_241, prog_13_method_81_code, (11, 3, (some .int), false, mc_241)),
  (mn_242, prog_13_method_82_code, (11, 3, (some .int), false, mc_242)),
  (mn_243, prog_13_method_83_code, (11, 2, (some .int), false, mc_243)),
  (mn_244, prog_13_method_84_code, (11, 2, (some .int), false, mc_244)),
  (mn_245, prog_13_method_85_code, (11, 4, (some .int), false, mc_245)),
  (mn_246, prog_13_method_86_code, (11, 4, (some .int), false, mc_246)),
  (mn_247, prog_13_method_87_code, (11, 3, (some .int), false, mc_247)),
  (mn_248, prog_13_method_88_code, (11, 5, (some .int), false, mc_248)),
  (mn_249, prog_13_method_89_code, (11, 3, (some .boolean), false, mc_249)),
  (mn_250, prog_13_method_90_code, (11, 8, (some .int), false, mc_250)),
  (mn_251, prog_13_method_91_code, (11, 6, (some .int), false, mc_251)),
  (mn_252, prog_13_method_92_code, (11, 2, (some .int), false, mc_252)),
  (mn_253, prog_13_method_93_code, (11, 6, (some .int), false, mc_253)),
  (mn_254, prog_13_method_94_code, (11, 4, (some .boolean), false, mc_254)),
  (mn_255, prog_13_method_95_code, (11, 7, (some .int), false, mc_255)),
  (mn_256, prog_13_method_96_code, (11, 4, (some .int), false, mc_256)),
  (mn_257, prog_13_method_97_code, (11, 7, (some .int), false, mc_257)),
  (mn_258, prog_13_method_98_code, (11, 1, (some .int), false, mc_258)),
  (mn_259, prog_13_method_99_code, (11, 7, (some .int), false, mc_259)),
  (mn_260, prog_13_method_100_code, (11, 1, (some .int), false, mc_260)),
  (mn_261, prog_13_method_101_code, (11, 6, (some .int), false, mc_261)),
  (mn_262, prog_13_method_102_code, (11, 2, (some .int), false, mc_262)),
  (mn_263, prog_13_method_103_code, (11, 6, (some .int), false, mc_263)),
  (mn_264, prog_13_method_104_code, (11, 3, (some .int), false, mc_264)),
  (mn_265, prog_13_method_105_code, (11, 6, (some .int), false, mc_265)),
  (mn_266, prog_13_method_106_code, (11, 4, (some .boolean), false, mc_266)),
  (mn_267, prog_13_method_107_code, (11, 4, (some .boolean), false, mc_267)),
  (mn_268, prog_13_method_108_code, (11, 4, (some .int), false, mc_268)),
  (mn_269, prog_13_method_109_code, (11, 4, none, false, mc_269)),
  (mn_270, prog_13_method_110_code, (11, 6, (some .int), false, mc_270)),
  (mn_271, prog_13_method_111_code, (11, 2, (some .int), false, mc_271)),
  (mn_272, prog_13_method_112_code, (11, 4, none, false, mc_272)),
  (mn_273, prog_13_method_113_code, (11, 2, none, false, mc_273)),
  (mn_274, prog_13_method_114_code, (11, 1, none, false, mc_274)),
  (mn_275, prog_13_method_115_code, (11, 1, (some .int), false, mc_275)),
  (mn_276, prog_13_method_116_code, (11, 5, (some .boolean), false, mc_276)),
  (mn_277, prog_13_method_117_code, (11, 1, (some .boolean), false, mc_277)),
  (mn_278, prog_13_method_118_code, (11, 3, (some .int), false, mc_278)),
  (mn_279, prog_13_method_119_code, (11, 6, (some .boolean), false, mc_279)),
  (mn_280, prog_13_method_120_code, (11, 5, (some .boolean), false, mc_280)),
  (mn_281, prog_13_method_121_code, (11, 4, (some .int), false, mc_281)),
  (mn_282, prog_13_method_122_code, (11, 3, (some .boolean), false, mc_282)),
  (mn_283, prog_13_method_123_code, (11, 3, (some .boolean), false, mc_283)),
  (mn_284, prog_13_method_124_code, (11, 2, (some .int), false, mc_284)),
  (mn_285, prog_18_method_49_code, (12, 1, (some .int), false, mc_285))]
def pi_mk_5 : List (Nat × Bool) := [(0, false), (2, false), (2, false), (1, false), (1, false), (1, false), (1, false), (2, false), (1, false), (2, false), (3, false), (3, false), (1, false), (2, false), (3, false), (3, false), (1, false), (2, false), (0, false), (1, false), (0, false), (3, false), (1, false), (2, false), (2, false), (3, false), (0, false), (3, false), (3, false), (3, false), (1, false), (1, false), (3, false), (1, false), (0, false), (0, false), (0, false), (0, false), (0, false), (4, false), (1, false), (1, false), (1, false), (1, false), (1, false), (1, true)]
def pi_mt : List pi_ME := pi_mt_0 ++ (pi_mt_1 ++ (pi_mt_2 ++ (pi_mt_3 ++ (pi_mt_4 ++ (pi_mt_5)))))
def pi_mk : List (Nat × Bool) := pi_mk_0 ++ (pi_mk_1 ++ (pi_mk_2 ++ (pi_mk_3 ++ (pi_mk_4 ++ (pi_mk_5)))))
end
section
set_option maxRecDepth 100000 in
theorem mo_0 : pi_okM (mn_0, prog_2_method_1_code, (0, 3, none, true, mc_0)) 2 false := ⟨by decide +kernel, by decide +kernel, List.mem_of_getElem? (i := 329) (by decide +kernel), List.mem_of_getElem? (i := 93) (by decide +kernel), (fun h => by cases h), (fun _ => List.mem_of_getElem? (i := 328) (by decide +kernel)), (fun _ h => by cases h), by decide +kernel, by decide +kernel, by decide +kernel, (fun _ => by decide +kernel), md_0⟩
set_option maxRecDepth 100000 in
theorem mo_1 : pi_okM (mn_1, prog_2_method_2_code, (0, 2, (some .boolean), false, mc_1)) 0 false := ⟨by decide +kernel, by decide +kernel, List.mem_of_getElem? (i := 1003) (by decide +kernel), List.mem_of_getElem? (i := 93) (by decide +kernel), (fun h => by cases h), (fun _ => List.mem_of_getElem? (i := 1001) (by decide +kernel)), (fun _ _ => List.mem_of_getElem? (i := 1002) (by decide +kernel)), by decide +kernel, by decide +kernel, by decide +kernel, (fun h => by cases h), md_1⟩
set_option maxRecDepth 100000 in
theorem mo_2 : pi_okM (mn_2, prog_2_method_3_code, (0, 3, (some .boolean), false, mc_2)) 0 false := ⟨by decide +kernel, by decide +kernel, List.mem_of_getElem? (i := 1008) (by decide +kernel), List.mem_of_getElem? (i := 93) (by decide +kernel), (fun h => by cases h), (fun _ => List.mem_of_getElem? (i := 1006) (by decide +kernel)), (fun _ _ => List.mem_of_getElem? (i := 1007) (by decide +kernel)), by decide +kernel, by decide +kernel, by decide +kernel, (fun h => by cases h), md_2⟩
set_option maxRecDepth 100000 in
theorem mo_3 : pi_okM (mn_3, prog_2_method_4_code, (0, 3, (some .boolean), false, mc_3)) 0 false := ⟨by decide +kernel, by decide +kernel, List.mem_of_getElem? (i := 1013) (by decide +kernel), List.mem_of_getElem? (i := 93) (by decide +kernel), (fun h => by cases h), (fun _ => List.mem_of_getElem? (i := 1011) (by decide +kernel)), (fun _ _ => List.mem_of_getElem? (i := 1012) (by decide +kernel)), by decide +kernel, by decide +kernel, by decide +kernel, (fun h => by cases h), md_3⟩
set_option maxRecDepth 100000 in
theorem mo_4 : pi_okM (mn_4, prog_2_method_5_code, (0, 1, (some .boolean), false, mc_4)) 0 false := ⟨by decide +kernel, by decide +kernel, List.mem_of_getElem? (i := 1018) (by decide +kernel), List.mem_of_getElem? (i := 93) (by decide +kernel), (fun h => by cases h), (fun _ => List.mem_of_getElem? (i := 1016) (by decide +kernel)), (fun _ _ => List.mem_of_getElem? (i := 1017) (by decide +kernel)), by decide +kernel, by decide +kernel, by decide +kernel, (fun h => by cases h), md_4⟩
set_option maxRecDepth 100000 in
theorem mo_5 : pi_okM (mn_5, prog_2_method_6_code, (0, 4, (some .boolean), false, mc_5)) 3 false := ⟨by decide +kernel, by decide +kernel, List.mem_of_getElem? (i := 1025) (by decide +kernel), List.mem_of_getElem? (i := 93) (by decide +kernel), (fun h => by cases h), (fun _ => List.mem_of_getElem? (i := 1023) (by decide +kernel)), (fun _ _ => List.mem_of_getElem? (i := 1024) (by decide +kernel)), by decide +kernel, by decide +kernel, by decide +kernel, (fun h => by cases h), md_5⟩
set_option maxRecDepth 100000 in
theorem mo_6 : pi_okM (mn_6, prog_3_method_1_code, (1, 1, none, true, mc_6)) 0 false := ⟨by decide +kernel, by decide +kernel, List.mem_of_getElem? (i := 379) (by decide +kernel), List.mem_of_getElem? (i := 95) (by decide +kernel), (fun h => by cases h), (fun _ => List.mem_of_getElem? (i := 378) (by decide +kernel)), (fun _ h => by cases h), by decide +kernel, by decide +kernel, by decide +kernel, (fun _ => by decide +kernel), md_6⟩
set_option maxRecDepth 100000 in
theorem mo_7 : pi_okM (mn_7, prog_3_method_2_code, (1, 4, none, false, mc_7)) 3 false := ⟨by decide +kernel, by decide +kernel, List.mem_of_getElem? (i := 1118) (by decide +kernel), List.mem_of_getElem? (i := 95) (by decide +kernel), (fun h => by cases h), (fun _ => List.mem_of_getElem? (i := 1116) (by decide +kernel)), (fun _ _ => List.mem_of_getElem? (i := 1117) (by decide +kernel)), by decide +kernel, by decide +kernel, by decide +kernel, (fun h => by cases h), md_7⟩
set_option maxRecDepth 100000 in
theorem mo_8 : pi_okM (mn_8, prog_3_method_3_code, (1, 4, none, false, mc_8)) 3 false := ⟨by decide +kernel, by decide +kernel, List.mem_of_getElem? (i := 1129) (by decide +kernel), List.mem_of_getElem? (i := 95) (by decide +kernel), (fun h => by cases h), (fun _ => List.mem_of_getElem? (i := 1127) (by decide +kernel)), (fun _ _ => List.mem_of_getElem? (i := 1128) (by decide +kernel)), by decide +kernel, by decide +kernel, by decide +kernel, (fun h => by cases h), md_8⟩
set_option maxRecDepth 100000 in
theorem mo_9 : pi_okM (mn_9, prog_4_method_1_code, (2, 1, none, true, mc_9)) 0 false := ⟨by decide +kernel, by decide +kernel, List.mem_of_getElem? (i := 222) (by decide +kernel), List.mem_of_getElem? (i := 87) (by decide +kernel), (fun h => by cases h), (fun _ => List.mem_of_getElem? (i := 221) (by decide +kernel)), (fun _ h => by cases h), by decide +kernel, by decide +kernel, by decide +kernel, (fun _ => by decide +kernel), md_9⟩
set_option maxRecDepth 100000 in
theorem mo_10 : pi_okM (mn_10, prog_4_method_2_code, (2, 2, none, false, mc_10)) 0 false := ⟨by decide +kernel, by decide +kernel, List.mem_of_getElem? (i := 482) (by decide +kernel), List.mem_of_getElem? (i := 87) (by decide +kernel), (fun h => by cases h), (fun _ => List.mem_of_getElem? (i := 480) (by decide +kernel)), (fun _ _ => List.mem_of_getElem? (i := 481) (by decide +kernel)), by decide +kernel, by decide +kernel, by decide +kernel, (fun h => by cases h), md_10⟩
set_option maxRecDepth 100000 in
theorem mo_11 : pi_okM (mn_11, prog_4_method_3_code, (2, 2, none, false, mc_11)) 1 false := ⟨by decide +kernel, by decide +kernel, List.mem_of_getElem? (i := 628) (by decide +kernel), List.mem_of_getElem? (i := 87) (by decide +kernel), (fun h => by cases h), (fun _ => List.mem_of_getElem? (i := 626) (by decide +kernel)), (fun _ _ => List.mem_of_getElem? (i := 627) (by decide +kernel)), by decide +kernel, by decide +kernel, by decide +kernel, (fun h => by cases h), md_11⟩
set_option maxRecDepth 100000 in
theorem mo_12 : pi_okM (mn_12, prog_4_method_4_code, (2, 4, (some .boolean), false, mc_12)) 1 false := ⟨by decide +kernel, by decide +kernel, List.mem_of_getElem? (i := 539) (by decide +kernel), List.mem_of_getElem? (i := 87) (by decide +kernel), (fun h => by cases h), (fun _ => List.mem_of_getElem? (i := 537) (by decide +kernel)), (fun _ _ => List.mem_of_getElem? (i := 538) (by decide +kernel)), by decide +kernel, by decide +kernel, by decide +kernel, (fun h => by cases h), md_12⟩
set_option maxRecDepth 100000 in
theorem mo_13 : pi_okM (mn_13, prog_4_method_5_code, (2, 5, (some .int), false, mc_13)) 2 false := ⟨by decide +kernel, by decide +kernel, List.mem_of_getElem? (i := 565) (by decide +kernel), List.mem_of_getElem? (i := 87) (by decide +kernel), (fun h => by cases h), (fun _ => List.mem_of_getElem? (i := 563) (by decide +kernel)), (fun _ _ => List.mem_of_getElem? (i := 564) (by decide +kernel)), by decide +kernel, by decide +kernel, by decide +kernel, (fun h => by cases h), md_13⟩
set_option maxRecDepth 100000 in
theorem mo_14 : pi_okM (mn_14, prog_4_method_6_code, (2, 6, (some .int), false, mc_14)) 2 false := ⟨by decide +kernel, by decide +kernel, List.mem_of_getElem? (i := 544) (by decide +kernel), List.mem_of_getElem? (i := 87) (by decide +kernel), (fun h => by cases h), (fun _ => List.mem_of_getElem? (i := 542) (by decide +kernel)), (fun _ _ => List.mem_of_getElem? (i := 543) (by decide +kernel)), by decide +kernel, by decide +kernel, by decide +kernel, (fun h => by cases h), md_14⟩
set_option maxRecDepth 100000 in
theorem mo_15 : pi_okM (mn_15, prog_4_method_7_code, (2, 3, none, false, mc_15)) 2 false := ⟨by decide +kernel, by decide +kernel, List.mem_of_getElem? (i := 574) (by decide +kernel), List.mem_of_getElem? (i := 87) (by decide +kernel), (fun h => by cases h), (fun _ => List.mem_of_getElem? (i := 572) (by decide +kernel)), (fun _ _ => List.mem_of_getElem? (i := 573) (by decide +kernel)), by decide +kernel, by decide +kernel, by decide +kernel, (fun h => by cases h), md_15⟩
set_option maxRecDepth 100000 in
theorem mo_16 : pi_okM (mn_16, prog_4_method_8_code, (2, 3, (some .boolean), false, mc_16)) 2 false := ⟨by decide +kernel, by decide +kernel, List.mem_of_getElem? (i := 570) (by decide +kernel), List.mem_of_getElem? (i := 87) (by decide +kernel), (fun h => by cases h), (fun _ => List.mem_of_getElem? (i := 568) (by decide +kernel)), (fun _ _ => List.mem_of_getElem? (i := 569) (by decide +kernel)), by decide +kernel, by decide +kernel, by decide +kernel, (fun h => by cases h), md_16⟩
set_option maxRecDepth 100000 in
theorem mo_17 : pi_okM (mn_17, prog_4_method_9_code, (2, 8, (some .boolean), false, mc_17)) 3 false := ⟨by decide +kernel, by decide +kernel, List.mem_of_getElem? (i := 930) (by decide +kernel), List.mem_of_getElem? (i := 87) (by decide +kernel), (fun h => by cases h), (fun _ => List.mem_of_getElem? (i := 928) (by decide +kernel)), (fun _ _ => List.mem_of_getElem? (i := 929) (by decide +kernel)), by decide +kernel, by decide +kernel, by decide +kernel, (fun h => by cases h), md_17⟩
set_option maxRecDepth 100000 in
theorem mo_18 : pi_okM (mn_18, prog_4_method_10_code, (2, 4, (some .int), false, mc_18)) 1 false := ⟨by decide +kernel, by decide +kernel, List.mem_of_getElem? (i := 955) (by decide +kernel), List.mem_of_getElem? (i := 87) (by decide +kernel), (fun h => by cases h), (fun _ => List.mem_of_getElem? (i := 953) (by decide +kernel)), (fun _ _ => List.mem_of_getElem? (i := 954) (by decide +kernel)), by decide +kernel, by decide +kernel, by decide +kernel, (fun h => by cases h), md_18⟩
set_option maxRecDepth 100000 in
theorem mo_19 : pi_okM (mn_19, prog_4_method_11_code, (2, 6, (some .int), false, mc_19)) 1 false := ⟨by decide +kernel, by decide +kernel, List.mem_of_getElem? (i := 971) (by decide +kernel), List.mem_of_getElem? (i := 87) (by decide +kernel), (fun h => by cases h), (fun _ => List.mem_of_getElem? (i := 969) (by decide +kernel)), (fun _ _ => List.mem_of_getElem? (i := 970) (by decide +kernel)), by decide +kernel, by decide +kernel, by decide +kernel, (fun h => by cases h), md_19⟩
set_option maxRecDepth 100000 in
theorem mo_20 : pi_okM (mn_20, prog_5_method_1_code, (3, 3, none, true, mc_20)) 2 false := ⟨by decide +kernel, by decide +kernel, List.mem_of_getElem? (i := 239) (by decide +kernel), List.mem_of_getElem? (i := 88) (by decide +kernel), (fun h => by cases h), (fun _ => List.mem_of_getElem? (i := 238) (by decide +kernel)), (fun _ h => by cases h), by decide +kernel, by decide +kernel, by decide +kernel, (fun _ => by decide +kernel), md_20⟩
set_option maxRecDepth 100000 in
theorem mo_21 : pi_okM (mn_21, prog_5_method_2_code, (3, 2, (some .int), false, mc_21)) 0 false := ⟨by decide +kernel, by decide +kernel, List.mem_of_getElem? (i := 478) (by decide +kernel), List.mem_of_getElem? (i := 88) (by decide +kernel), (fun h => by cases h), (fun _ => List.mem_of_getElem? (i := 476) (by decide +kernel)), (fun _ _ => List.mem_of_getElem? (i := 477) (by decide +kernel)), by decide +kernel, by decide +kernel, by decide +kernel, (fun h => by cases h), md_21⟩
set_option maxRecDepth 100000 in
theorem mo_22 : pi_okM (mn_22, prog_5_method_3_code, (3, 1, (some .boolean), false, mc_22)) 0 false := ⟨by decide +kernel, by decide +kernel, List.mem_of_getElem? (i := 515) (by decide +kernel), List.mem_of_getElem? (i := 88) (by decide +kernel), (fun h => by cases h), (fun _ => List.mem_of_getElem? (i := 513) (by decide +kernel)), (fun _ _ => List.mem_of_getElem? (i := 514) (by decide +kernel)), by decide +kernel, by decide +kernel, by decide +kernel, (fun h => by cases h), md_22⟩
set_option maxRecDepth 100000 in
theorem mo_23 : pi_okM (mn_23, prog_5_method_4_code, (3, 3, (some .boolean), false, mc_23)) 2 false := ⟨by decide +kernel, by decide +kernel, List.mem_of_getElem? (i := 519) (by decide +kernel), List.mem_of_getElem? (i := 88) (by decide +kernel), (fun h => by cases h), (fun _ => List.mem_of_getElem? (i := 517) (by decide +kernel)), (fun _ _ => List.mem_of_getElem? (i := 518) (by decide +kernel)), by decide +kernel, by decide +kernel, by decide +kernel, (fun h => by cases h), md_23⟩
set_option maxRecDepth 100000 in
theorem mo_24 : pi_okM (mn_24, prog_5_method_5_code, (3, 3, (some .int), false, mc_24)) 1 false := ⟨by decide +kernel, by decide +kernel, List.mem_of_getElem? (i := 531) (by decide +kernel), List.mem_of_getElem? (i := 88) (by decide +kernel), (fun h => by cases h), (fun _ => List.mem_of_getElem? (i := 529) (by decide +kernel)), (fun _ _ => List.mem_of_getElem? (i := 530) (by decide +kernel)), by decide +kernel, by decide +kernel, by decide +kernel, (fun h => by cases h), md_24⟩
set_option maxRecDepth 100000 in
theorem mo_25 : pi_okM (mn_25, prog_5_method_6_code, (3, 3, (some .boolean), false, mc_25)) 0 false := ⟨by decide +kernel, by decide +kernel, List.mem_of_getElem? (i := 551) (by decide +kernel), List.mem_of_getElem? (i := 88) (by decide +kernel), (fun h => by cases h), (fun _ => List.mem_of_getElem? (i := 549) (by decide +kernel)), (fun _ _ => List.mem_of_getElem? (i := 550) (by decide +kernel)), by decide +kernel, by decide +kernel, by decide +kernel, (fun h => by cases h), md_25⟩
set_option maxRecDepth 100000 in
theorem mo_26 : pi_okM (mn_26, prog_5_method_7_code, (3, 3, (some .boolean), false, mc_26)) 0 false := ⟨by decide +kernel, by decide +kernel, List.mem_of_getElem? (i := 579) (by decide +kernel), List.mem_of_getElem? (i := 88) (by decide +kernel), (fun h => by cases h), (fun _ => List.mem_of_getElem? (i := 577) (by decide +kernel)), (fun _ _ => List.mem_of_getElem? (i := 578) (by decide +kernel)), by decide +kernel, by decide +kernel, by decide +kernel, (fun h => by cases h), md_26⟩
set_option maxRecDepth 100000 in
theorem mo_27 : pi_okM (mn_27, prog_5_method_8_code, (3, 3, (some .boolean), false, mc_27)) 0 false := ⟨by decide +kernel, by decide +kernel, List.mem_of_getElem? (i := 587) (by decide +kernel), List.mem_of_getElem? (i := 88) (by decide +kernel), (fun h => by cases h), (fun _ => List.mem_of_getElem? (i := 585) (by decide +kernel)), (fun _ _ => List.mem_of_getElem? (i := 586) (by decide +kernel)), by decide +kernel, by decide +kernel, by decide +kernel, (fun h => by cases h), md_27⟩
set_option maxRecDepth 100000 in
theorem mo_28 : pi_okM (mn_28, prog_5_method_9_code, (3, 3, (some .boolean), false, mc_28)) 1 false := ⟨by decide +kernel, by decide +kernel, List.mem_of_getElem? (i := 591) (by decide +kernel), List.mem_of_getElem? (i := 88) (by decide +kernel), (fun h => by cases h), (fun _ => List.mem_of_getElem? (i := 589) (by decide +kernel)), (fun _ _ => List.mem_of_getElem? (i := 590) (by decide +kernel)), by decide +kernel, by decide +kernel, by decide +kernel, (fun h => by cases h), md_28⟩
set_option maxRecDepth 100000 in
theorem mo_29 : pi_okM (mn_29, prog_5_method_10_code, (3, 3, (some .boolean), false, mc_29)) 0 false := ⟨by decide +kernel, by decide +kernel, List.mem_of_getElem? (i := 599) (by decide +kernel), List.mem_of_getElem? (i := 88) (by decide +kernel), (fun h => by cases h), (fun _ => List.mem_of_getElem? (i := 597) (by decide +kernel)), (fun _ _ => List.mem_of_getElem? (i := 598) (by decide +kernel)), by decide +kernel, by decide +kernel, by decide +kernel, (fun h => by cases h), md_29⟩
set_option maxRecDepth 100000 in
theorem mo_30 : pi_okM (mn_30, prog_5_method_11_code, (3, 4, (some .boolean), false, mc_30)) 0 false := ⟨by decide +kernel, by decide +kernel, List.mem_of_getElem? (i := 603) (by decide +kernel), List.mem_of_getElem? (i := 88) (by decide +kernel), (fun h => by cases h), (fun _ => List.mem_of_getElem? (i := 601) (by decide +kernel)), (fun _ _ => List.mem_of_getElem? (i := 602) (by decide +kernel)), by decide +kernel, by decide +kernel, by decide +kernel, (fun h => by cases h), md_30⟩
set_option maxRecDepth 100000 in
theorem mo_31 : pi_okM (mn_31, prog_5_method_12_code, (3, 3, (some .boolean), false, mc_31)) 0 false := ⟨by decide +kernel, by decide +kernel, List.mem_of_getElem? (i := 607) (by decide +kernel), List.mem_of_getElem? (i := 88) (by decide +kernel), (fun h => by cases h), (fun _ => List.mem_of_getElem? (i := 605) (by decide +kernel)), (fun _ _ => List.mem_of_getElem? (i := 606) (by decide +kernel)), by decide +kernel, by decide +kernel, by decide +kernel, (fun h => by cases h), md_31⟩
set_option maxRecDepth 100000 in
theorem mo_32 : pi_okM (mn_32, prog_5_method_13_code, (3, 4, (some .boolean), false, mc_32)) 1 false := ⟨by decide +kernel, by decide +kernel, List.mem_of_getElem? (i := 611) (by decide +kernel), List.mem_of_getElem? (i := 88) (by decide +kernel), (fun h => by cases h), (fun _ => List.mem_of_getElem? (i := 609) (by decide +kernel)), (fun _ _ => List.mem_of_getElem? (i := 610) (by decide +kernel)), by decide +kernel, by decide +kernel, by decide +kernel, (fun h => by cases h), md_32⟩
set_option maxRecDepth 100000 in
theorem mo_33 : pi_okM (mn_33, prog_5_method_14_code, (3, 3, (some .boolean), false, mc_33)) 0 false := ⟨by decide +kernel, by decide +kernel, List.mem_of_getElem? (i := 615) (by decide +kernel), List.mem_of_getElem? (i := 88) (by decide +kernel), (fun h => by cases h), (fun _ => List.mem_of_getElem? (i := 613) (by decide +kernel)), (fun _ _ => List.mem_of_getElem? (i := 614) (by decide +kernel)), by decide +kernel, by decide +kernel, by decide +kernel, (fun h => by cases h), md_33⟩
set_option maxRecDepth 100000 in
theorem mo_34 : pi_okM (mn_34, prog_5_method_15_code, (3, 3, (some .boolean), false, mc_34)) 0 false := ⟨by decide +kernel, by decide +kernel, List.mem_of_getElem? (i := 619) (by decide +kernel), List.mem_of_getElem? (i := 88) (by decide +kernel), (fun h => by cases h), (fun _ => List.mem_of_getElem? (i := 617) (by decide +kernel)), (fun _ _ => List.mem_of_getElem? (i := 618) (by decide +kernel)), by decide +kernel, by decide +kernel, by decide +kernel, (fun h => by cases h), md_34⟩
set_option maxRecDepth 100000 in
theorem mo_35 : pi_okM (mn_35, prog_6_method_1_code, (4, 2, none, true, mc_35)) 1 false := ⟨by decide +kernel, by decide +kernel, List.mem_of_getElem? (i := 252) (by decide +kernel), List.mem_of_getElem? (i := 89) (by decide +kernel), (fun h => by cases h), (fun _ => List.mem_of_getElem? (i := 251) (by decide +kernel)), (fun _ h => by cases h), by decide +kernel, by decide +kernel, by decide +kernel, (fun _ => by decide +kernel), md_35⟩
set_option maxRecDepth 100000 in
theorem mo_36 : pi_okM (mn_36, prog_6_method_2_code, (4, 2, none, false, mc_36)) 1 false := ⟨by decide +kernel, by decide +kernel, List.mem_of_getElem? (i := 942) (by decide +kernel), List.mem_of_getElem? (i := 89) (by decide +kernel), (fun h => by cases h), (fun _ => List.mem_of_getElem? (i := 940) (by decide +kernel)), (fun _ _ => List.mem_of_getElem? (i := 941) (by decide +kernel)), by decide +kernel, by decide +kernel, by decide +kernel, (fun h => by cases h), md_36⟩
set_option maxRecDepth 100000 in
theorem mo_37 : pi_okM (mn_37, prog_6_method_3_code, (4, 2, none, false, mc_37)) 0 false := ⟨by decide +kernel, by decide +kernel, List.mem_of_getElem? (i := 641) (by decide +kernel), List.mem_of_getElem? (i := 89) (by decide +kernel), (fun h => by cases h), (fun _ => List.mem_of_getElem? (i := 639) (by decide +kernel)), (fun _ _ => List.mem_of_getElem? (i := 640) (by decide +kernel)), by decide +kernel, by decide +kernel, by decide +kernel, (fun h => by cases h), md_37⟩
set_option maxRecDepth 100000 in
theorem mo_38 : pi_okM (mn_38, prog_6_method_4_code, (4, 1, (some .int), false, mc_38)) 0 false := ⟨by decide +kernel, by decide +kernel, List.mem_of_getElem? (i := 700) (by decide +kernel), List.mem_of_getElem? (i := 89) (by decide +kernel), (fun h => by cases h), (fun _ => List.mem_of_getElem? (i := 698) (by decide +kernel)), (fun _ _ => List.mem_of_getElem? (i := 699) (by decide +kernel)), by decide +kernel, by decide +kernel, by decide +kernel, (fun h => by cases h), md_38⟩
set_option maxRecDepth 100000 in
theorem mo_39 : pi_okM (mn_39, prog_6_method_5_code, (4, 3, (some .int), false, mc_39)) 2 false := ⟨by decide +kernel, by decide +kernel, List.mem_of_getElem? (i := 771) (by decide +kernel), List.mem_of_getElem? (i := 89) (by decide +kernel), (fun h => by cases h), (fun _ => List.mem_of_getElem? (i := 769) (by decide +kernel)), (fun _ _ => List.mem_of_getElem? (i := 770) (by decide +kernel)), by decide +kernel, by decide +kernel, by decide +kernel, (fun h => by cases h), md_39⟩
set_option maxRecDepth 100000 in
theorem mo_40 : pi_okM (mn_40, prog_6_method_6_code, (4, 3, (some .int), false, mc_40)) 2 false := ⟨by decide +kernel, by decide +kernel, List.mem_of_getElem? (i := 881) (by decide +kernel), List.mem_of_getElem? (i := 89) (by decide +kernel), (fun h => by cases h), (fun _ => List.mem_of_getElem? (i := 879) (by decide +kernel)), (fun _ _ => List.mem_of_getElem? (i := 880) (by decide +kernel)), by decide +kernel, by decide +kernel, by decide +kernel, (fun h => by cases h), md_40⟩
set_option maxRecDepth 100000 in
theorem mo_41 : pi_okM (mn_41, prog_6_method_7_code, (4, 4, none, false, mc_41)) 1 false := ⟨by decide +kernel, by decide +kernel, List.mem_of_getElem? (i := 647) (by decide +kernel), List.mem_of_getElem? (i := 89) (by decide +kernel), (fun h => by cases h), (fun _ => List.mem_of_getElem? (i := 645) (by decide +kernel)), (fun _ _ => List.mem_of_getElem? (i := 646) (by decide +kernel)), by decide +kernel, by decide +kernel, by decide +kernel, (fun h => by cases h), md_41⟩
set_option maxRecDepth 100000 in
theorem mo_42 : pi_okM (mn_42, prog_6_method_8_code, (4, 7, none, false, mc_42)) 2 false := ⟨by decide +kernel, by decide +kernel, List.mem_of_getElem? (i := 651) (by decide +kernel), List.mem_of_getElem? (i := 89) (by decide +kernel), (fun h => by cases h), (fun _ => List.mem_of_getElem? (i := 649) (by decide +kernel)), (fun _ _ => List.mem_of_getElem? (i := 650) (by decide +kernel)), by decide +kernel, by decide +kernel, by decide +kernel, (fun h => by cases h), md_42⟩
set_option maxRecDepth 100000 in
theorem mo_43 : pi_okM (mn_43, prog_6_method_9_code, (4, 4, (some .int), false, mc_43)) 3 false := ⟨by decide +kernel, by decide +kernel, List.mem_of_getElem? (i := 751) (by decide +kernel), List.mem_of_getElem? (i := 89) (by decide +kernel), (fun h => by cases h), (fun _ => List.mem_of_getElem? (i := 749) (by decide +kernel)), (fun _ _ => List.mem_of_getElem? (i := 750) (by decide +kernel)), by decide +kernel, by decide +kernel, by decide +kernel, (fun h => by cases h), md_43⟩
set_option maxRecDepth 100000 in
theorem mo_44 : pi_okM (mn_44, prog_6_method_10_code, (4, 3, (some .int), false, mc_44)) 2 false := ⟨by decide +kernel, by decide +kernel, List.mem_of_getElem? (i := 755) (by decide +kernel), List.mem_of_getElem? (i := 89) (by decide +kernel), (fun h => by cases h), (fun _ => List.mem_of_getElem? (i := 753) (by decide +kernel)), (fun _ _ => List.mem_of_getElem? (i := 754) (by decide +kernel)), by decide +kernel, by decide +kernel, by decide +kernel, (fun h => by cases h), md_44⟩
set_option maxRecDepth 100000 in
theorem mo_45 : pi_okM (mn_45, prog_6_method_11_code, (4, 3, (some .boolean), false, mc_45)) 2 false := ⟨by decide +kernel, by decide +kernel, List.mem_of_getElem? (i := 759) (by decide +kernel), List.mem_of_getElem? (i := 89) (by decide +kernel), (fun h => by cases h), (fun _ => List.mem_of_getElem? (i := 757) (by decide +kernel)), (fun _ _ => List.mem_of_getElem? (i := 758) (by decide +kernel)), by decide +kernel, by decide +kernel, by decide +kernel, (fun h => by cases h), md_45⟩
set_option maxRecDepth 100000 in
theorem mo_46 : pi_okM (mn_46, prog_6_method_12_code, (4, 4, none, false, mc_46)) 3 false := ⟨by decide +kernel, by decide +kernel, List.mem_of_getElem? (i := 781) (by decide +kernel), List.mem_of_getElem? (i := 89) (by decide +kernel), (fun h => by cases h), (fun _ => List.mem_of_getElem? (i := 779) (by decide +kernel)), (fun _ _ => List.mem_of_getElem? (i := 780) (by decide +kernel)), by decide +kernel, by decide +kernel, by decide +kernel, (fun h => by cases h), md_46⟩
set_option maxRecDepth 100000 in
theorem mo_47 : pi_okM (mn_47, prog_6_method_13_code, (4, 3, none, false, mc_47)) 1 false := ⟨by decide +kernel, by decide +kernel, List.mem_of_getElem? (i := 785) (by decide +kernel), List.mem_of_getElem? (i := 89) (by decide +kernel), (fun h => by cases h), (fun _ => List.mem_of_getElem? (i := 783) (by decide +kernel)), (fun _ _ => List.mem_of_getElem? (i := 784) (by decide +kernel)), by decide +kernel, by decide +kernel, by decide +kernel, (fun h => by cases h), md_47⟩
set_option maxRecDepth 100000 in
theorem mo_48 : pi_okM (mn_48, prog_6_method_14_code, (4, 4, none, false, mc_48)) 2 false := ⟨by decide +kernel, by decide +kernel, List.mem_of_getElem? (i := 789) (by decide +kernel), List.mem_of_getElem? (i := 89) (by decide +kernel), (fun h => by cases h), (fun _ => List.mem_of_getElem? (i := 787) (by decide +kernel)), (fun _ _ => List.mem_of_getElem? (i := 788) (by decide +kernel)), by decide +kernel, by decide +kernel, by decide +kernel, (fun h => by cases h), md_48⟩
set_option maxRecDepth 100000 in
theorem mo_49 : pi_okM (mn_49, prog_6_method_15_code, (4, 5, none, false, mc_49)) 1 false := ⟨by decide +kernel, by decide +kernel, List.mem_of_getElem? (i := 817) (by decide +kernel), List.mem_of_getElem? (i := 89) (by decide +kernel), (fun h => by cases h), (fun _ => List.mem_of_getElem? (i := 815) (by decide +kernel)), (fun _ _ => List.mem_of_getElem? (i := 816) (by decide +kernel)), by decide +kernel, by decide +kernel, by decide +kernel, (fun h => by cases h), md_49⟩
set_option maxRecDepth 100000 in
theorem mo_50 : pi_okM (mn_50, prog_6_method_16_code, (4, 6, none, false, mc_50)) 0 false := ⟨by decide +kernel, by decide +kernel, List.mem_of_getElem? (i := 821) (by decide +kernel), List.mem_of_getElem? (i := 89) (by decide +kernel), (fun h => by cases h), (fun _ => List.mem_of_getElem? (i := 819) (by decide +kernel)), (fun _ _ => List.mem_of_getElem? (i := 820) (by decide +kernel)), by decide +kernel, by decide +kernel, by decide +kernel, (fun h => by cases h), md_50⟩
set_option maxRecDepth 100000 in
theorem mo_51 : pi_okM (mn_51, prog_6_method_17_code, (4, 5, none, false, mc_51)) 1 false := ⟨by decide +kernel, by decide +kernel, List.mem_of_getElem? (i := 825) (by decide +kernel), List.mem_of_getElem? (i := 89) (by decide +kernel), (fun h => by cases h), (fun _ => List.mem_of_getElem? (i := 823) (by decide +kernel)), (fun _ _ => List.mem_of_getElem? (i := 824) (by decide +kernel)), by decide +kernel, by decide +kernel, by decide +kernel, (fun h => by cases h), md_51⟩
set_option maxRecDepth 100000 in
theorem mo_52 : pi_okM (mn_52, prog_6_method_18_code, (4, 5, none, false, mc_52)) 2 false := ⟨by decide +kernel, by decide +kernel, List.mem_of_getElem? (i := 979) (by decide +kernel), List.mem_of_getElem? (i := 89) (by decide +kernel), (fun h => by cases h), (fun _ => List.mem_of_getElem? (i := 977) (by decide +kernel)), (fun _ _ => List.mem_of_getElem? (i := 978) (by decide +kernel)), by decide +kernel, by decide +kernel, by decide +kernel, (fun h => by cases h), md_52⟩
set_option maxRecDepth 100000 in
theorem mo_53 : pi_okM (mn_53, prog_6_method_19_code, (4, 3, none, false, mc_53)) 1 false := ⟨by decide +kernel, by decide +kernel, List.mem_of_getElem? (i := 990) (by decide +kernel), List.mem_of_getElem? (i := 89) (by decide +kernel), (fun h => by cases h), (fun _ => List.mem_of_getElem? (i := 988) (by decide +kernel)), (fun _ _ => List.mem_of_getElem? (i := 989) (by decide +kernel)), by decide +kernel, by decide +kernel, by decide +kernel, (fun h => by cases h), md_53⟩
set_option maxRecDepth 100000 in
theorem mo_54 : pi_okM (mn_54, prog_6_method_20_code, (4, 2, (some .int), false, mc_54)) 1 false := ⟨by decide +kernel, by decide +kernel, List.mem_of_getElem? (i := 983) (by decide +kernel), List.mem_of_getElem? (i := 89) (by decide +kernel), (fun h => by cases h), (fun _ => List.mem_of_getElem? (i := 981) (by decide +kernel)), (fun _ _ => List.mem_of_getElem? (i := 982) (by decide +kernel)), by decide +kernel, by decide +kernel, by decide +kernel, (fun h => by cases h), md_54⟩
set_option maxRecDepth 100000 in
theorem mo_55 : pi_okM (mn_55, prog_6_method_21_code, (4, 5, (some .int), false, mc_55)) 2 false := ⟨by decide +kernel, by decide +kernel, List.mem_of_getElem? (i := 739) (by decide +kernel), List.mem_of_getElem? (i := 89) (by decide +kernel), (fun h => by cases h), (fun _ => List.mem_of_getElem? (i := 737) (by decide +kernel)), (fun _ _ => List.mem_of_getElem? (i := 738) (by decide +kernel)), by decide +kernel, by decide +kernel, by decide +kernel, (fun h => by cases h), md_55⟩
set_option maxRecDepth 100000 in
theorem mo_56 : pi_okM (mn_56, prog_6_method_22_code, (4, 5, (some .int), false, mc_56)) 1 false := ⟨by decide +kernel, by decide +kernel, List.mem_of_getElem? (i := 730) (by decide +kernel), List.mem_of_getElem? (i := 89) (by decide +kernel), (fun h => by cases h), (fun _ => List.mem_of_getElem? (i := 728) (by decide +kernel)), (fun _ _ => List.mem_of_getElem? (i := 729) (by decide +kernel)), by decide +kernel, by decide +kernel, by decide +kernel, (fun h => by cases h), md_56⟩
set_option maxRecDepth 100000 in
theorem mo_57 : pi_okM (mn_57, prog_6_method_23_code, (4, 5, (some .int), false, mc_57)) 1 false := ⟨by decide +kernel, by decide +kernel, List.mem_of_getElem? (i := 734) (by decide +kernel), List.mem_of_getElem? (i := 89) (by decide +kernel), (fun h => by cases h), (fun _ => List.mem_of_getElem? (i := 732) (by decide +kernel)), (fun _ _ => List.mem_of_getElem? (i := 733) (by decide +kernel)), by decide +kernel, by decide +kernel, by decide +kernel, (fun h => by cases h), md_57⟩
set_option maxRecDepth 100000 in
theorem mo_58 : pi_okM (mn_58, prog_6_method_24_code, (4, 3, (some .int), false, mc_58)) 1 false := ⟨by decide +kernel, by decide +kernel, List.mem_of_getElem? (i := 865) (by decide +kernel), List.mem_of_getElem? (i := 89) (by decide +kernel), (fun h => by cases h), (fun _ => List.mem_of_getElem? (i := 863) (by decide +kernel)), (fun _ _ => List.mem_of_getElem? (i := 864) (by decide +kernel)), by decide +kernel, by decide +kernel, by decide +kernel, (fun h => by cases h), md_58⟩
set_option maxRecDepth 100000 in
theorem mo_59 : pi_okM (mn_59, prog_6_method_25_code, (4, 7, (some .int), false, mc_59)) 1 false := ⟨by decide +kernel, by decide +kernel, List.mem_of_getElem? (i := 726) (by decide +kernel), List.mem_of_getElem? (i := 89) (by decide +kernel), (fun h => by cases h), (fun _ => List.mem_of_getElem? (i := 724) (by decide +kernel)), (fun _ _ => List.mem_of_getElem? (i := 725) (by decide +kernel)), by decide +kernel, by decide +kernel, by decide +kernel, (fun h => by cases h), md_59⟩
set_option maxRecDepth 100000 in
theorem mo_60 : pi_okM (mn_60, prog_6_method_26_code, (4, 5, (some .int), false, mc_60)) 1 false := ⟨by decide +kernel, by decide +kernel, List.mem_of_getElem? (i := 763) (by decide +kernel), List.mem_of_getElem? (i := 89) (by decide +kernel), (fun h => by cases h), (fun _ => List.mem_of_getElem? (i := 761) (by decide +kernel)), (fun _ _ => List.mem_of_getElem? (i := 762) (by decide +kernel)), by decide +kernel, by decide +kernel, by decide +kernel, (fun h => by cases h), md_60⟩
set_option maxRecDepth 100000 in
theorem mo_61 : pi_okM (mn_61, prog_6_method_27_code, (4, 4, (some .int), false, mc_61)) 1 false := ⟨by decide +kernel, by decide +kernel, List.mem_of_getElem? (i := 873) (by decide +kernel), List.mem_of_getElem? (i := 89) (by decide +kernel), (fun h => by cases h), (fun _ => List.mem_of_getElem? (i := 871) (by decide +kernel)), (fun _ _ => List.mem_of_getElem? (i := 872) (by decide +kernel)), by decide +kernel, by decide +kernel, by decide +kernel, (fun h => by cases h), md_61⟩
set_option maxRecDepth 100000 in
theorem mo_62 : pi_okM (mn_62, prog_6_method_28_code, (4, 3, (some .int), false, mc_62)) 0 false := ⟨by decide +kernel, by decide +kernel, List.mem_of_getElem? (i := 722) (by decide +kernel), List.mem_of_getElem? (i := 89) (by decide +kernel), (fun h => by cases h), (fun _ => List.mem_of_getElem? (i := 720) (by decide +kernel)), (fun _ _ => List.mem_of_getElem? (i := 721) (by decide +kernel)), by decide +kernel, by decide +kernel, by decide +kernel, (fun h => by cases h), md_62⟩
set_option maxRecDepth 100000 in
theorem mo_63 : pi_okM (mn_63, prog_6_method_29_code, (4, 4, (some .int), false, mc_63)) 1 false := ⟨by decide +kernel, by decide +kernel, List.mem_of_getElem? (i := 767) (by decide +kernel), List.mem_of_getElem? (i := 89) (by decide +kernel), (fun h => by cases h), (fun _ => List.mem_of_getElem? (i := 765) (by decide +kernel)), (fun _ _ => List.mem_of_getElem? (i := 766) (by decide +kernel)), by decide +kernel, by decide +kernel, by decide +kernel, (fun h => by cases h), md_63⟩
set_option maxRecDepth 100000 in
theorem mo_64 : pi_okM (mn_64, prog_6_method_30_code, (4, 3, (some .int), false, mc_64)) 0 false := ⟨by decide +kernel, by decide +kernel, List.mem_of_getElem? (i := 704) (by decide +kernel), List.mem_of_getElem? (i := 89) (by decide +kernel), (fun h => by cases h), (fun _ => List.mem_of_getElem? (i := 702) (by decide +kernel)), (fun _ _ => List.mem_of_getElem? (i := 703) (by decide +kernel)), by decide +kernel, by decide +kernel, by decide +kernel, (fun h => by cases h), md_64⟩
set_option maxRecDepth 100000 in
theorem mo_65 : pi_okM (mn_65, prog_6_method_31_code, (4, 3, (some .int), false, mc_65)) 0 false := ⟨by decide +kernel, by decide +kernel, List.mem_of_getElem? (i := 714) (by decide +kernel), List.mem_of_getElem? (i := 89) (by decide +kernel), (fun h => by cases h), (fun _ => List.mem_of_getElem? (i := 712) (by decide +kernel)), (fun _ _ => List.mem_of_getElem? (i := 713) (by decide +kernel)), by decide +kernel, by decide +kernel, by decide +kernel, (fun h => by cases h), md_65⟩
set_option maxRecDepth 100000 in
theorem mo_66 : pi_okM (mn_66, prog_6_method_32_code, (4, 3, (some .int), false, mc_66)) 0 false := ⟨by decide +kernel, by decide +kernel, List.mem_of_getElem? (i := 718) (by decide +kernel), List.mem_of_getElem? (i := 89) (by decide +kernel), (fun h => by cases h), (fun _ => List.mem_of_getElem? (i := 716) (by decide +kernel)), (fun _ _ => List.mem_of_getElem? (i := 717) (by decide +kernel)), by decide +kernel, by decide +kernel, by decide +kernel, (fun h => by cases h), md_66⟩
set_option maxRecDepth 100000 in
theorem mo_67 : pi_okM (mn_67, prog_6_method_33_code, (4, 4, (some .int), false, mc_67)) 1 false := ⟨by decide +kernel, by decide +kernel, List.mem_of_getElem? (i := 692) (by decide +kernel), List.mem_of_getElem? (i := 89) (by decide +kernel), (fun h => by cases h), (fun _ => List.mem_of_getElem? (i := 690) (by decide +kernel)), (fun _ _ => List.mem_of_getElem? (i := 691) (by decide +kernel)), by decide +kernel, by decide +kernel, by decide +kernel, (fun h => by cases h), md_67⟩
set_option maxRecDepth 100000 in
theorem mo_68 : pi_okM (mn_68, prog_6_method_34_code, (4, 2, (some .int), false, mc_68)) 1 false := ⟨by decide +kernel, by decide +kernel, List.mem_of_getElem? (i := 680) (by decide +kernel), List.mem_of_getElem? (i := 89) (by decide +kernel), (fun h => by cases h), (fun _ => List.mem_of_getElem? (i := 678) (by decide +kernel)), (fun _ _ => List.mem_of_getElem? (i := 679) (by decide +kernel)), by decide +kernel, by decide +kernel, by decide +kernel, (fun h => by cases h), md_68⟩
set_option maxRecDepth 100000 in
theorem mo_69 : pi_okM (mn_69, prog_6_method_35_code, (4, 4, (some .int), false, mc_69)) 1 false := ⟨by decide +kernel, by decide +kernel, List.mem_of_getElem? (i := 684) (by decide +kernel), List.mem_of_getElem? (i := 89) (by decide +kernel), (fun h => by cases h), (fun _ => List.mem_of_getElem? (i := 682) (by decide +kernel)), (fun _ _ => List.mem_of_getElem? (i := 683) (by decide +kernel)), by decide +kernel, by decide +kernel, by decide +kernel, (fun h => by cases h), md_69⟩
set_option maxRecDepth 100000 in
theorem mo_70 : pi_okM (mn_70, prog_7_method_1_code, (5, 1, none, true, mc_70)) 0 false := ⟨by decide +kernel, by decide +kernel, List.mem_of_getElem? (i := 271) (by decide +kernel), List.mem_of_getElem? (i := 90) (by decide +kernel), (fun h => by cases h), (fun _ => List.mem_of_getElem? (i := 270) (by decide +kernel)), (fun _ h => by cases h), by decide +kernel, by decide +kernel, by decide +kernel, (fun _ => by decide +kernel), md_70⟩
set_option maxRecDepth 100000 in
theorem mo_71 : pi_okM (mn_71, prog_7_method_2_code, (5, 1, none, false, mc_71)) 0 false := ⟨by decide +kernel, by decide +kernel, List.mem_of_getElem? (i := 663) (by decide +kernel), List.mem_of_getElem? (i := 90) (by decide +kernel), (fun h => by cases h), (fun _ => List.mem_of_getElem? (i := 661) (by decide +kernel)), (fun _ _ => List.mem_of_getElem? (i := 662) (by decide +kernel)), by decide +kernel, by decide +kernel, by decide +kernel, (fun h => by cases h), md_71⟩
set_option maxRecDepth 100000 in
theorem mo_72 : pi_okM (mn_72, prog_7_method_3_code, (5, 2, none, false, mc_72)) 1 false := ⟨by decide +kernel, by decide +kernel, List.mem_of_getElem? (i := 775) (by decide +kernel), List.mem_of_getElem? (i := 90) (by decide +kernel), (fun h => by cases h), (fun _ => List.mem_of_getElem? (i := 773) (by decide +kernel)), (fun _ _ => List.mem_of_getElem? (i := 774) (by decide +kernel)), by decide +kernel, by decide +kernel, by decide +kernel, (fun h => by cases h), md_72⟩
set_option maxRecDepth 100000 in
theorem mo_73 : pi_okM (mn_73, prog_7_method_4_code, (5, 2, (some .int), false, mc_73)) 1 false := ⟨by decide +kernel, by decide +kernel, List.mem_of_getElem? (i := 833) (by decide +kernel), List.mem_of_getElem? (i := 90) (by decide +kernel), (fun h => by cases h), (fun _ => List.mem_of_getElem? (i := 831) (by decide +kernel)), (fun _ _ => List.mem_of_getElem? (i := 832) (by decide +kernel)), by decide +kernel, by decide +kernel, by decide +kernel, (fun h => by cases h), md_73⟩
set_option maxRecDepth 100000 in
theorem mo_74 : pi_okM (mn_74, prog_8_method_1_code, (6, 2, none, true, mc_74)) 1 false := ⟨by decide +kernel, by decide +kernel, List.mem_of_getElem? (i := 358) (by decide +kernel), List.mem_of_getElem? (i := 94) (by decide +kernel), (fun h => by cases h), (fun _ => List.mem_of_getElem? (i := 357) (by decide +kernel)), (fun _ h => by cases h), by decide +kernel, by decide +kernel, by decide +kernel, (fun _ => by decide +kernel), md_74⟩
set_option maxRecDepth 100000 in
theorem mo_75 : pi_okM (mn_75, prog_8_method_2_code, (6, 8, (some .int), false, mc_75)) 3 false := ⟨by decide +kernel, by decide +kernel, List.mem_of_getElem? (i := 894) (by decide +kernel), List.mem_of_getElem? (i := 94) (by decide +kernel), (fun h => by cases h), (fun _ => List.mem_of_getElem? (i := 892) (by decide +kernel)), (fun _ _ => List.mem_of_getElem? (i := 893) (by decide +kernel)), by decide +kernel, by decide +kernel, by decide +kernel, (fun h => by cases h), md_75⟩
set_option maxRecDepth 100000 in
theorem mo_76 : pi_okM (mn_76, prog_8_method_3_code, (6, 4, (some .int), false, mc_76)) 1 false := ⟨by decide +kernel, by decide +kernel, List.mem_of_getElem? (i := 899) (by decide +kernel), List.mem_of_getElem? (i := 94) (by decide +kernel), (fun h => by cases h), (fun _ => List.mem_of_getElem? (i := 897) (by decide +kernel)), (fun _ _ => List.mem_of_getElem? (i := 898) (by decide +kernel)), by decide +kernel, by decide +kernel, by decide +kernel, (fun h => by cases h), md_76⟩
set_option maxRecDepth 100000 in
theorem mo_77 : pi_okM (mn_77, prog_8_method_4_code, (6, 6, none, false, mc_77)) 2 false := ⟨by decide +kernel, by decide +kernel, List.mem_of_getElem? (i := 904) (by decide +kernel), List.mem_of_getElem? (i := 94) (by decide +kernel), (fun h => by cases h), (fun _ => List.mem_of_getElem? (i := 902) (by decide +kernel)), (fun _ _ => List.mem_of_getElem? (i := 903) (by decide +kernel)), by decide +kernel, by decide +kernel, by decide +kernel, (fun h => by cases h), md_77⟩
set_option maxRecDepth 100000 in
theorem mo_78 : pi_okM (mn_78, prog_8_method_5_code, (6, 2, (some .int), false, mc_78)) 1 true := ⟨by decide +kernel, by decide +kernel, List.mem_of_getElem? (i := 907) (by decide +kernel), List.mem_of_getElem? (i := 94) (by decide +kernel), (fun _ => List.mem_of_getElem? (i := 906) (by decide +kernel)), (fun h => by cases h), (fun h => by cases h), by decide +kernel, by decide +kernel, by decide +kernel, (fun h => by cases h), md_78⟩
set_option maxRecDepth 100000 in
theorem mo_79 : pi_okM (mn_79, prog_9_method_1_code, (7, 1, none, true, mc_79)) 0 false := ⟨by decide +kernel, by decide +kernel, List.mem_of_getElem? (i := 287) (by decide +kernel), List.mem_of_getElem? (i := 91) (by decide +kernel), (fun h => by cases h), (fun _ => List.mem_of_getElem? (i := 286) (by decide +kernel)), (fun _ h => by cases h), by decide +kernel, by decide +kernel, by decide +kernel, (fun _ => by decide +kernel), md_79⟩
set_option maxRecDepth 100000 in
theorem mo_80 : pi_okM (mn_80, prog_9_method_2_code, (7, 1, none, false, mc_80)) 0 false := ⟨by decide +kernel, by decide +kernel, List.mem_of_getElem? (i := 659) (by decide +kernel), List.mem_of_getElem? (i := 91) (by decide +kernel), (fun h => by cases h), (fun _ => List.mem_of_getElem? (i := 657) (by decide +kernel)), (fun _ _ => List.mem_of_getElem? (i := 658) (by decide +kernel)), by decide +kernel, by decide +kernel, by decide +kernel, (fun h => by cases h), md_80⟩
set_option maxRecDepth 100000 in
theorem mo_81 : pi_okM (mn_81, prog_9_method_3_code, (7, 2, none, false, mc_81)) 1 false := ⟨by decide +kernel, by decide +kernel, List.mem_of_getElem? (i := 1081) (by decide +kernel), List.mem_of_getElem? (i := 91) (by decide +kernel), (fun h => by cases h), (fun _ => List.mem_of_getElem? (i := 1079) (by decide +kernel)), (fun _ _ => List.mem_of_getElem? (i := 1080) (by decide +kernel)), by decide +kernel, by decide +kernel, by decide +kernel, (fun h => by cases h), md_81⟩
set_option maxRecDepth 100000 in
theorem mo_82 : pi_okM (mn_82, prog_9_method_4_code, (7, 4, none, false, mc_82)) 3 false := ⟨by decide +kernel, by decide +kernel, List.mem_of_getElem? (i := 1067) (by decide +kernel), List.mem_of_getElem? (i := 91) (by decide +kernel), (fun h => by cases h), (fun _ => List.mem_of_getElem? (i := 1065) (by decide +kernel)), (fun _ _ => List.mem_of_getElem? (i := 1066) (by decide +kernel)), by decide +kernel, by decide +kernel, by decide +kernel, (fun h => by cases h), md_82⟩
set_option maxRecDepth 100000 in
theorem mo_83 : pi_okM (mn_83, prog_9_method_5_code, (7, 6, (some .int), false, mc_83)) 1 false := ⟨by decide +kernel, by decide +kernel, List.mem_of_getElem? (i := 1090) (by decide +kernel), List.mem_of_getElem? (i := 91) (by decide +kernel), (fun h => by cases h), (fun _ => List.mem_of_getElem? (i := 1088) (by decide +kernel)), (fun _ _ => List.mem_of_getElem? (i := 1089) (by decide +kernel)), by decide +kernel, by decide +kernel, by decide +kernel, (fun h => by cases h), md_83⟩
set_option maxRecDepth 100000 in
theorem mo_84 : pi_okM (mn_84, prog_9_method_6_code, (7, 5, (some .int), false, mc_84)) 2 false := ⟨by decide +kernel, by decide +kernel, List.mem_of_getElem? (i := 1095) (by decide +kernel), List.mem_of_getElem? (i := 91) (by decide +kernel), (fun h => by cases h), (fun _ => List.mem_of_getElem? (i := 1093) (by decide +kernel)), (fun _ _ => List.mem_of_getElem? (i := 1094) (by decide +kernel)), by decide +kernel, by decide +kernel, by decide +kernel, (fun h => by cases h), md_84⟩
set_option maxRecDepth 100000 in
theorem mo_85 : pi_okM (mn_85, prog_9_method_7_code, (7, 5, (some .boolean), false, mc_85)) 3 false := ⟨by decide +kernel, by decide +kernel, List.mem_of_getElem? (i := 1099) (by decide +kernel), List.mem_of_getElem? (i := 91) (by decide +kernel), (fun h => by cases h), (fun _ => List.mem_of_getElem? (i := 1097) (by decide +kernel)), (fun _ _ => List.mem_of_getElem? (i := 1098) (by decide +kernel)), by decide +kernel, by decide +kernel, by decide +kernel, (fun h => by cases h), md_85⟩
set_option maxRecDepth 100000 in
theorem mo_86 : pi_okM (mn_86, prog_9_method_8_code, (7, 4, (some .boolean), false, mc_86)) 2 false := ⟨by decide +kernel, by decide +kernel, List.mem_of_getElem? (i := 1105) (by decide +kernel), List.mem_of_getElem? (i := 91) (by decide +kernel), (fun h => by cases h), (fun _ => List.mem_of_getElem? (i := 1103) (by decide +kernel)), (fun _ _ => List.mem_of_getElem? (i := 1104) (by decide +kernel)), by decide +kernel, by decide +kernel, by decide +kernel, (fun h => by cases h), md_86⟩
set_option maxRecDepth 100000 in
theorem mo_87 : pi_okM (mn_87, prog_10_method_1_code, (8, 4, none, true, mc_87)) 3 false := ⟨by decide +kernel, by decide +kernel, List.mem_of_getElem? (i := 310) (by decide +kernel), List.mem_of_getElem? (i := 92) (by decide +kernel), (fun h => by cases h), (fun _ => List.mem_of_getElem? (i := 309) (by decide +kernel)), (fun _ h => by cases h), by decide +kernel, by decide +kernel, by decide +kernel, (fun _ => by decide +kernel), md_87⟩
set_option maxRecDepth 100000 in
theorem mo_88 : pi_okM (mn_88, prog_10_method_2_code, (8, 1, (some .int), false, mc_88)) 0 false := ⟨by decide +kernel, by decide +kernel, List.mem_of_getElem? (i := 1045) (by decide +kernel), List.mem_of_getElem? (i := 92) (by decide +kernel), (fun h => by cases h), (fun _ => List.mem_of_getElem? (i := 1043) (by decide +kernel)), (fun _ _ => List.mem_of_getElem? (i := 1044) (by decide +kernel)), by decide +kernel, by decide +kernel, by decide +kernel, (fun h => by cases h), md_88⟩
set_option maxRecDepth 100000 in
theorem mo_89 : pi_okM (mn_89, prog_10_method_3_code, (8, 4, (some .boolean), false, mc_89)) 1 false := ⟨by decide +kernel, by decide +kernel, List.mem_of_getElem? (i := 1051) (by decide +kernel), List.mem_of_getElem? (i := 92) (by decide +kernel), (fun h => by cases h), (fun _ => List.mem_of_getElem? (i := 1049) (by decide +kernel)), (fun _ _ => List.mem_of_getElem? (i := 1050) (by decide +kernel)), by decide +kernel, by decide +kernel, by decide +kernel, (fun h => by cases h), md_89⟩
set_option maxRecDepth 100000 in
theorem mo_90 : pi_okM (mn_90, prog_10_method_4_code, (8, 4, (some .boolean), false, mc_90)) 1 false := ⟨by decide +kernel, by decide +kernel, List.mem_of_getElem? (i := 1055) (by decide +kernel), List.mem_of_getElem? (i := 92) (by decide +kernel), (fun h => by cases h), (fun _ => List.mem_of_getElem? (i := 1053) (by decide +kernel)), (fun _ _ => List.mem_of_getElem? (i := 1054) (by decide +kernel)), by decide +kernel, by decide +kernel, by decide +kernel, (fun h => by cases h), md_90⟩
set_option maxRecDepth 100000 in
theorem mo_91 : pi_okM (mn_91, prog_10_method_5_code, (8, 2, (some .boolean), false, mc_91)) 1 false := ⟨by decide +kernel, by decide +kernel, List.mem_of_getElem? (i := 1063) (by decide +kernel), List.mem_of_getElem? (i := 92) (by decide +kernel), (fun h => by cases h), (fun _ => List.mem_of_getElem? (i := 1061) (by decide +kernel)), (fun _ _ => List.mem_of_getElem? (i := 1062) (by decide +kernel)), by decide +kernel, by decide +kernel, by decide +kernel, (fun h => by cases h), md_91⟩
set_option maxRecDepth 100000 in
theorem mo_92 : pi_okM (mn_92, prog_10_method_6_code, (8, 4, (some .boolean), false, mc_92)) 2 false := ⟨by decide +kernel, by decide +kernel, List.mem_of_getElem? (i := 1072) (by decide +kernel), List.mem_of_getElem? (i := 92) (by decide +kernel), (fun h => by cases h), (fun _ => List.mem_of_getElem? (i := 1070) (by decide +kernel)), (fun _ _ => List.mem_of_getElem? (i := 1071) (by decide +kernel)), by decide +kernel, by decide +kernel, by decide +kernel, (fun h => by cases h), md_92⟩
set_option maxRecDepth 100000 in
theorem mo_93 : pi_okM (mn_93, prog_10_method_7_code, (8, 3, (some .boolean), false, mc_93)) 1 false := ⟨by decide +kernel, by decide +kernel, List.mem_of_getElem? (i := 1077) (by decide +kernel), List.mem_of_getElem? (i := 92) (by decide +kernel), (fun h => by cases h), (fun _ => List.mem_of_getElem? (i := 1075) (by decide +kernel)), (fun _ _ => List.mem_of_getElem? (i := 1076) (by decide +kernel)), by decide +kernel, by decide +kernel, by decide +kernel, (fun h => by cases h), md_93⟩
set_option maxRecDepth 100000 in
theorem mo_94 : pi_okM (mn_94, prog_11_method_1_code, (9, 4, none, true, mc_94)) 0 false := ⟨by decide +kernel, by decide +kernel, List.mem_of_getElem? (i := 116) (by decide +kernel), List.mem_of_getElem? (i := 82) (by decide +kernel), (fun h => by cases h), (fun _ => List.mem_of_getElem? (i := 115) (by decide +kernel)), (fun _ h => by cases h), by decide +kernel, by decide +kernel, by decide +kernel, (fun _ => by decide +kernel), md_94⟩
set_option maxRecDepth 100000 in
theorem mo_95 : pi_okM (mn_95, prog_11_method_2_code, (9, 3, none, false, mc_95)) 1 false := ⟨by decide +kernel, by decide +kernel, List.mem_of_getElem? (i := 466) (by decide +kernel), List.mem_of_getElem? (i := 82) (by decide +kernel), (fun h => by cases h), (fun _ => List.mem_of_getElem? (i := 464) (by decide +kernel)), (fun _ _ => List.mem_of_getElem? (i := 465) (by decide +kernel)), by decide +kernel, by decide +kernel, by decide +kernel, (fun h => by cases h), md_95⟩
set_option maxRecDepth 100000 in
theorem mo_96 : pi_okM (mn_96, prog_11_method_3_code, (9, 2, (some .int), false, mc_96)) 1 false := ⟨by decide +kernel, by decide +kernel, List.mem_of_getElem? (i := 494) (by decide +kernel), List.mem_of_getElem? (i := 82) (by decide +kernel), (fun h => by cases h), (fun _ => List.mem_of_getElem? (i := 492) (by decide +kernel)), (fun _ _ => List.mem_of_getElem? (i := 493) (by decide +kernel)), by decide +kernel, by decide +kernel, by decide +kernel, (fun h => by cases h), md_96⟩
set_option maxRecDepth 100000 in
theorem mo_97 : pi_okM (mn_97, prog_11_method_4_code, (9, 2, none, false, mc_97)) 1 false := ⟨by decide +kernel, by decide +kernel, List.mem_of_getElem? (i := 486) (by decide +kernel), List.mem_of_getElem? (i := 82) (by decide +kernel), (fun h => by cases h), (fun _ => List.mem_of_getElem? (i := 484) (by decide +kernel)), (fun _ _ => List.mem_of_getElem? (i := 485) (by decide +kernel)), by decide +kernel, by decide +kernel, by decide +kernel, (fun h => by cases h), md_97⟩
set_option maxRecDepth 100000 in
theorem mo_98 : pi_okM (mn_98, prog_11_method_5_code, (9, 3, none, false, mc_98)) 0 false := ⟨by decide +kernel, by decide +kernel, List.mem_of_getElem? (i := 490) (by decide +kernel), List.mem_of_getElem? (i := 82) (by decide +kernel), (fun h => by cases h), (fun _ => List.mem_of_getElem? (i := 488) (by decide +kernel)), (fun _ _ => List.mem_of_getElem? (i := 489) (by decide +kernel)), by decide +kernel, by decide +kernel, by decide +kernel, (fun h => by cases h), md_98⟩
set_option maxRecDepth 100000 in
theorem mo_99 : pi_okM (mn_99, prog_11_method_6_code, (9, 6, none, false, mc_99)) 1 false := ⟨by decide +kernel, by decide +kernel, List.mem_of_getElem? (i := 507) (by decide +kernel), List.mem_of_getElem? (i := 82) (by decide +kernel), (fun h => by cases h), (fun _ => List.mem_of_getElem? (i := 505) (by decide +kernel)), (fun _ _ => List.mem_of_getElem? (i := 506) (by decide +kernel)), by decide +kernel, by decide +kernel, by decide +kernel, (fun h => by cases h), md_99⟩
set_option maxRecDepth 100000 in
theorem mo_100 : pi_okM (mn_100, prog_11_method_7_code, (9, 4, (some .int), false, mc_100)) 1 false := ⟨by decide +kernel, by decide +kernel, List.mem_of_getElem? (i := 511) (by decide +kernel), List.mem_of_getElem? (i := 82) (by decide +kernel), (fun h => by cases h), (fun _ => List.mem_of_getElem? (i := 509) (by decide +kernel)), (fun _ _ => List.mem_of_getElem? (i := 510) (by decide +kernel)), by decide +kernel, by decide +kernel, by decide +kernel, (fun h => by cases h), md_100⟩
set_option maxRecDepth 100000 in
theorem mo_101 : pi_okM (mn_101, prog_11_method_8_code, (9, 1, (some .boolean), false, mc_101)) 1 true := ⟨by decide +kernel, by decide +kernel, List.mem_of_getElem? (i := 500) (by decide +kernel), List.mem_of_getElem? (i := 82) (by decide +kernel), (fun _ => List.mem_of_getElem? (i := 499) (by decide +kernel)), (fun h => by cases h), (fun h => by cases h), by decide +kernel, by decide +kernel, by decide +kernel, (fun h => by cases h), md_101⟩
set_option maxRecDepth 100000 in
theorem mo_102 : pi_okM (mn_102, prog_11_method_9_code, (9, 1, (some .boolean), false, mc_102)) 1 true := ⟨by decide +kernel, by decide +kernel, List.mem_of_getElem? (i := 503) (by decide +kernel), List.mem_of_getElem? (i := 82) (by decide +kernel), (fun _ => List.mem_of_getElem? (i := 502) (by decide +kernel)), (fun h => by cases h), (fun h => by cases h), by decide +kernel, by decide +kernel, by decide +kernel, (fun h => by cases h), md_102⟩
set_option maxRecDepth 100000 in
theorem mo_103 : pi_okM (mn_103, prog_11_method_10_code, (9, 2, (some .boolean), false, mc_103)) 1 false := ⟨by decide +kernel, by decide +kernel, List.mem_of_getElem? (i := 526) (by decide +kernel), List.mem_of_getElem? (i := 82) (by decide +kernel), (fun h => by cases h), (fun _ => List.mem_of_getElem? (i := 524) (by decide +kernel)), (fun _ _ => List.mem_of_getElem? (i := 525) (by decide +kernel)), by decide +kernel, by decide +kernel, by decide +kernel, (fun h => by cases h), md_103⟩
set_option maxRecDepth 100000 in
theorem mo_104 : pi_okM (mn_104, prog_11_method_11_code, (9, 2, (some .boolean), false, mc_104)) 1 false := ⟨by decide +kernel, by decide +kernel, List.mem_of_getElem? (i := 595) (by decide +kernel), List.mem_of_getElem? (i := 82) (by decide +kernel), (fun h => by cases h), (fun _ => List.mem_of_getElem? (i := 593) (by decide +kernel)), (fun _ _ => List.mem_of_getElem? (i := 594) (by decide +kernel)), by decide +kernel, by decide +kernel, by decide +kernel, (fun h => by cases h), md_104⟩
set_option maxRecDepth 100000 in
theorem mo_105 : pi_okM (mn_105, prog_11_method_12_code, (9, 2, (some .boolean), false, mc_105)) 1 false := ⟨by decide +kernel, by decide +kernel, List.mem_of_getElem? (i := 623) (by decide +kernel), List.mem_of_getElem? (i := 82) (by decide +kernel), (fun h => by cases h), (fun _ => List.mem_of_getElem? (i := 621) (by decide +kernel)), (fun _ _ => List.mem_of_getElem? (i := 622) (by decide +kernel)), by decide +kernel, by decide +kernel, by decide +kernel, (fun h => by cases h), md_105⟩
set_option maxRecDepth 100000 in
theorem mo_106 : pi_okM (mn_106, prog_11_method_13_code, (9, 4, (some .int), false, mc_106)) 2 false := ⟨by decide +kernel, by decide +kernel, List.mem_of_getElem? (i := 583) (by decide +kernel), List.mem_of_getElem? (i := 82) (by decide +kernel), (fun h => by cases h), (fun _ => List.mem_of_getElem? (i := 581) (by decide +kernel)), (fun _ _ => List.mem_of_getElem? (i := 582) (by decide +kernel)), by decide +kernel, by decide +kernel, by decide +kernel, (fun h => by cases h), md_106⟩
set_option maxRecDepth 100000 in
theorem mo_107 : pi_okM (mn_107, prog_11_method_14_code, (9, 1, (some .boolean), false, mc_107)) 0 false := ⟨by decide +kernel, by decide +kernel, List.mem_of_getElem? (i := 535) (by decide +kernel), List.mem_of_getElem? (i := 82) (by decide +kernel), (fun h => by cases h), (fun _ => List.mem_of_getElem? (i := 533) (by decide +kernel)), (fun _ _ => List.mem_of_getElem? (i := 534) (by decide +kernel)), by decide +kernel, by decide +kernel, by decide +kernel, (fun h => by cases h), md_107⟩
set_option maxRecDepth 100000 in
theorem mo_108 : pi_okM (mn_108, prog_11_method_15_code, (9, 4, (some .int), false, mc_108)) 2 false := ⟨by decide +kernel, by decide +kernel, List.mem_of_getElem? (i := 559) (by decide +kernel), List.mem_of_getElem? (i := 82) (by decide +kernel), (fun h => by cases h), (fun _ => List.mem_of_getElem? (i := 557) (by decide +kernel)), (fun _ _ => List.mem_of_getElem? (i := 558) (by decide +kernel)), by decide +kernel, by decide +kernel, by decide +kernel, (fun h => by cases h), md_108⟩
set_option maxRecDepth 100000 in
theorem mo_109 : pi_okM (mn_109, prog_11_method_16_code, (9, 4, (some .int), false, mc_109)) 2 false := ⟨by decide +kernel, by decide +kernel, List.mem_of_getElem? (i := 555) (by decide +kernel), List.mem_of_getElem? (i := 82) (by decide +kernel), (fun h => by cases h), (fun _ => List.mem_of_getElem? (i := 553) (by decide +kernel)), (fun _ _ => List.mem_of_getElem? (i := 554) (by decide +kernel)), by decide +kernel, by decide +kernel, by decide +kernel, (fun h => by cases h), md_109⟩
set_option maxRecDepth 100000 in
theorem mo_110 : pi_okM (mn_110, prog_1_method_1_code, (10, 1, none, true, mc_110)) 0 false := ⟨by decide +kernel, by decide +kernel, List.mem_of_getElem? (i := 108) (by decide +kernel), List.mem_of_getElem? (i := 81) (by decide +kernel), (fun h => by cases h), (fun _ => List.mem_of_getElem? (i := 107) (by decide +kernel)), (fun _ h => by cases h), by decide +kernel, by decide +kernel, by decide +kernel, (fun _ => by decide +kernel), md_110⟩
set_option maxRecDepth 100000 in
theorem mo_111 : pi_okM (mn_111, prog_1_method_2_code, (10, 6, (some .int), false, mc_111)) 5 false := ⟨by decide +kernel, by decide +kernel, List.mem_of_getElem? (i := 462) (by decide +kernel), List.mem_of_getElem? (i := 81) (by decide +kernel), (fun h => by cases h), (fun _ => List.mem_of_getElem? (i := 460) (by decide +kernel)), (fun _ _ => List.mem_of_getElem? (i := 461) (by decide +kernel)), by decide +kernel, by decide +kernel, by decide +kernel, (fun h => by cases h), md_111⟩
set_option maxRecDepth 100000 in
theorem mo_112 : pi_okM (mn_112, prog_1_method_3_code, (10, 2, (some .boolean), false, mc_112)) 1 false := ⟨by decide +kernel, by decide +kernel, List.mem_of_getElem? (i := 470) (by decide +kernel), List.mem_of_getElem? (i := 81) (by decide +kernel), (fun h => by cases h), (fun _ => List.mem_of_getElem? (i := 468) (by decide +kernel)), (fun _ _ => List.mem_of_getElem? (i := 469) (by decide +kernel)), by decide +kernel, by decide +kernel, by decide +kernel, (fun h => by cases h), md_112⟩
set_option maxRecDepth 100000 in
theorem mo_113 : pi_okM (mn_113, prog_1_method_4_code, (10, 2, (some .int), false, mc_113)) 0 false := ⟨by decide +kernel, by decide +kernel, List.mem_of_getElem? (i := 474) (by decide +kernel), List.mem_of_getElem? (i := 81) (by decide +kernel), (fun h => by cases h), (fun _ => List.mem_of_getElem? (i := 472) (by decide +kernel)), (fun _ _ => List.mem_of_getElem? (i := 473) (by decide +kernel)), by decide +kernel, by decide +kernel, by decide +kernel, (fun h => by cases h), md_113⟩
set_option maxRecDepth 100000 in
theorem mo_114 : pi_okM (mn_114, prog_1_method_5_code, (10, 1, (some .int), false, mc_114)) 0 false := ⟨by decide +kernel, by decide +kernel, List.mem_of_getElem? (i := 667) (by decide +kernel), List.mem_of_getElem? (i := 81) (by decide +kernel), (fun h => by cases h), (fun _ => List.mem_of_getElem? (i := 665) (by decide +kernel)), (fun _ _ => List.mem_of_getElem? (i := 666) (by decide +kernel)), by decide +kernel, by decide +kernel, by decide +kernel, (fun h => by cases h), md_114⟩
set_option maxRecDepth 100000 in
theorem mo_115 : pi_okM (mn_115, prog_1_method_6_code, (10, 3, (some .int), false, mc_115)) 2 false := ⟨by decide +kernel, by decide +kernel, List.mem_of_getElem? (i := 671) (by decide +kernel), List.mem_of_getElem? (i := 81) (by decide +kernel), (fun h => by cases h), (fun _ => List.mem_of_getElem? (i := 669) (by decide +kernel)), (fun _ _ => List.mem_of_getElem? (i := 670) (by decide +kernel)), by decide +kernel, by decide +kernel, by decide +kernel, (fun h => by cases h), md_115⟩
set_option maxRecDepth 100000 in
theorem mo_116 : pi_okM (mn_116, prog_1_method_8_code, (10, 3, (some .int), false, mc_116)) 2 false := ⟨by decide +kernel, by decide +kernel, List.mem_of_getElem? (i := 688) (by decide +kernel), List.mem_of_getElem? (i := 81) (by decide +kernel), (fun h => by cases h), (fun _ => List.mem_of_getElem? (i := 686) (by decide +kernel)), (fun _ _ => List.mem_of_getElem? (i := 687) (by decide +kernel)), by decide +kernel, by decide +kernel, by decide +kernel, (fun h => by cases h), md_116⟩
set_option maxRecDepth 100000 in
theorem mo_117 : pi_okM (mn_117, prog_1_method_9_code, (10, 2, (some .int), false, mc_117)) 1 false := ⟨by decide +kernel, by decide +kernel, List.mem_of_getElem? (i := 696) (by decide +kernel), List.mem_of_getElem? (i := 81) (by decide +kernel), (fun h => by cases h), (fun _ => List.mem_of_getElem? (i := 694) (by decide +kernel)), (fun _ _ => List.mem_of_getElem? (i := 695) (by decide +kernel)), by decide +kernel, by decide +kernel, by decide +kernel, (fun h => by cases h), md_117⟩
set_option maxRecDepth 100000 in
theorem mo_118 : pi_okM (mn_118, prog_1_method_10_code, (10, 3, (some .int), false, mc_118)) 2 false := ⟨by decide +kernel, by decide +kernel, List.mem_of_getElem? (i := 743) (by decide +kernel), List.mem_of_getElem? (i := 81) (by decide +kernel), (fun h => by cases h), (fun _ => List.mem_of_getElem? (i := 741) (by decide +kernel)), (fun _ _ => List.mem_of_getElem? (i := 742) (by decide +kernel)), by decide +kernel, by decide +kernel, by decide +kernel, (fun h => by cases h), md_118⟩
set_option maxRecDepth 100000 in
theorem mo_119 : pi_okM (mn_119, prog_1_method_11_code, (10, 3, (some .int), false, mc_119)) 2 false := ⟨by decide +kernel, by decide +kernel, List.mem_of_getElem? (i := 793) (by decide +kernel), List.mem_of_getElem? (i := 81) (by decide +kernel), (fun h => by cases h), (fun _ => List.mem_of_getElem? (i := 791) (by decide +kernel)), (fun _ _ => List.mem_of_getElem? (i := 792) (by decide +kernel)), by decide +kernel, by decide +kernel, by decide +kernel, (fun h => by cases h), md_119⟩
set_option maxRecDepth 100000 in
theorem mo_120 : pi_okM (mn_120, prog_1_method_12_code, (10, 3, (some .int), false, mc_120)) 2 false := ⟨by decide +kernel, by decide +kernel, List.mem_of_getElem? (i := 797) (by decide +kernel), List.mem_of_getElem? (i := 81) (by decide +kernel), (fun h => by cases h), (fun _ => List.mem_of_getElem? (i := 795) (by decide +kernel)), (fun _ _ => List.mem_of_getElem? (i := 796) (by decide +kernel)), by decide +kernel, by decide +kernel, by decide +kernel, (fun h => by cases h), md_120⟩
set_option maxRecDepth 100000 in
theorem mo_121 : pi_okM (mn_121, prog_1_method_13_code, (10, 2, (some .int), false, mc_121)) 1 false := ⟨by decide +kernel, by decide +kernel, List.mem_of_getElem? (i := 801) (by decide +kernel), List.mem_of_getElem? (i := 81) (by decide +kernel), (fun h => by cases h), (fun _ => List.mem_of_getElem? (i := 799) (by decide +kernel)), (fun _ _ => List.mem_of_getElem? (i := 800) (by decide +kernel)), by decide +kernel, by decide +kernel, by decide +kernel, (fun h => by cases h), md_121⟩
set_option maxRecDepth 100000 in
theorem mo_122 : pi_okM (mn_122, prog_1_method_14_code, (10, 3, (some .int), false, mc_122)) 2 false := ⟨by decide +kernel, by decide +kernel, List.mem_of_getElem? (i := 805) (by decide +kernel), List.mem_of_getElem? (i := 81) (by decide +kernel), (fun h => by cases h), (fun _ => List.mem_of_getElem? (i := 803) (by decide +kernel)), (fun _ _ => List.mem_of_getElem? (i := 804) (by decide +kernel)), by decide +kernel, by decide +kernel, by decide +kernel, (fun h => by cases h), md_122⟩
set_option maxRecDepth 100000 in
theorem mo_123 : pi_okM (mn_123, prog_1_method_15_code, (10, 2, (some .int), false, mc_123)) 1 false := ⟨by decide +kernel, by decide +kernel, List.mem_of_getElem? (i := 809) (by decide +kernel), List.mem_of_getElem? (i := 81) (by decide +kernel), (fun h => by cases h), (fun _ => List.mem_of_getElem? (i := 807) (by decide +kernel)), (fun _ _ => List.mem_of_getElem? (i := 808) (by decide +kernel)), by decide +kernel, by decide +kernel, by decide +kernel, (fun h => by cases h), md_123⟩
set_option maxRecDepth 100000 in
theorem mo_124 : pi_okM (mn_124, prog_1_method_16_code, (10, 3, (some .int), false, mc_124)) 1 false := ⟨by decide +kernel, by decide +kernel, List.mem_of_getElem? (i := 813) (by decide +kernel), List.mem_of_getElem? (i := 81) (by decide +kernel), (fun h => by cases h), (fun _ => List.mem_of_getElem? (i := 811) (by decide +kernel)), (fun _ _ => List.mem_of_getElem? (i := 812) (by decide +kernel)), by decide +kernel, by decide +kernel, by decide +kernel, (fun h => by cases h), md_124⟩
set_option maxRecDepth 100000 in
theorem mo_125 : pi_okM (mn_125, prog_1_method_17_code, (10, 1, (some .int), false, mc_125)) 0 false := ⟨by decide +kernel, by decide +kernel, List.mem_of_getElem? (i := 829) (by decide +kernel), List.mem_of_getElem? (i := 81) (by decide +kernel), (fun h => by cases h), (fun _ => List.mem_of_getElem? (i := 827) (by decide +kernel)), (fun _ _ => List.mem_of_getElem? (i := 828) (by decide +kernel)), by decide +kernel, by decide +kernel, by decide +kernel, (fun h => by cases h), md_125⟩
set_option maxRecDepth 100000 in
theorem mo_126 : pi_okM (mn_126, prog_1_method_18_code, (10, 3, (some .int), false, mc_126)) 2 false := ⟨by decide +kernel, by decide +kernel, List.mem_of_getElem? (i := 837) (by decide +kernel), List.mem_of_getElem? (i := 81) (by decide +kernel), (fun h => by cases h), (fun _ => List.mem_of_getElem? (i := 835) (by decide +kernel)), (fun _ _ => List.mem_of_getElem? (i := 836) (by decide +kernel)), by decide +kernel, by decide +kernel, by decide +kernel, (fun h => by cases h), md_126⟩
set_option maxRecDepth 100000 in
theorem mo_127 : pi_okM (mn_127, prog_1_method_19_code, (10, 3, (some .int), false, mc_127)) 2 false := ⟨by decide +kernel, by decide +kernel, List.mem_of_getElem? (i := 846) (by decide +kernel), List.mem_of_getElem? (i := 81) (by decide +kernel), (fun h => by cases h), (fun _ => List.mem_of_getElem? (i := 844) (by decide +kernel)), (fun _ _ => List.mem_of_getElem? (i := 845) (by decide +kernel)), by decide +kernel, by decide +kernel, by decide +kernel, (fun h => by cases h), md_127⟩
set_option maxRecDepth 100000 in
theorem mo_128 : pi_okM (mn_128, prog_1_method_20_code, (10, 2, (some .int), false, mc_128)) 1 false := ⟨by decide +kernel, by decide +kernel, List.mem_of_getElem? (i := 851) (by decide +kernel), List.mem_of_getElem? (i := 81) (by decide +kernel), (fun h => by cases h), (fun _ => List.mem_of_getElem? (i := 849) (by decide +kernel)), (fun _ _ => List.mem_of_getElem? (i := 850) (by decide +kernel)), by decide +kernel, by decide +kernel, by decide +kernel, (fun h => by cases h), md_128⟩
set_option maxRecDepth 100000 in
theorem mo_129 : pi_okM (mn_129, prog_1_method_21_code, (10, 2, (some .int), false, mc_129)) 1 false := ⟨by decide +kernel, by decide +kernel, List.mem_of_getElem? (i := 856) (by decide +kernel), List.mem_of_getElem? (i := 81) (by decide +kernel), (fun h => by cases h), (fun _ => List.mem_of_getElem? (i := 854) (by decide +kernel)), (fun _ _ => List.mem_of_getElem? (i := 855) (by decide +kernel)), by decide +kernel, by decide +kernel, by decide +kernel, (fun h => by cases h), md_129⟩
set_option maxRecDepth 100000 in
theorem mo_130 : pi_okM (mn_130, prog_1_method_22_code, (10, 2, (some .int), false, mc_130)) 1 false := ⟨by decide +kernel, by decide +kernel, List.mem_of_getElem? (i := 861) (by decide +kernel), List.mem_of_getElem? (i := 81) (by decide +kernel), (fun h => by cases h), (fun _ => List.mem_of_getElem? (i := 859) (by decide +kernel)), (fun _ _ => List.mem_of_getElem? (i := 860) (by decide +kernel)), by decide +kernel, by decide +kernel, by decide +kernel, (fun h => by cases h), md_130⟩
set_option maxRecDepth 100000 in
theorem mo_131 : pi_okM (mn_131, prog_1_method_23_code, (10, 2, (some .int), false, mc_131)) 1 false := ⟨by decide +kernel, by decide +kernel, List.mem_of_getElem? (i := 869) (by decide +kernel), List.mem_of_getElem? (i := 81) (by decide +kernel), (fun h => by cases h), (fun _ => List.mem_of_getElem? (i := 867) (by decide +kernel)), (fun _ _ => List.mem_of_getElem? (i := 868) (by decide +kernel)), by decide +kernel, by decide +kernel, by decide +kernel, (fun h => by cases h), md_131⟩
set_option maxRecDepth 100000 in
theorem mo_132 : pi_okM (mn_132, prog_1_method_24_code, (10, 3, (some .int), false, mc_132)) 2 false := ⟨by decide +kernel, by decide +kernel, List.mem_of_getElem? (i := 877) (by decide +kernel), List.mem_of_getElem? (i := 81) (by decide +kernel), (fun h => by cases h), (fun _ => List.mem_of_getElem? (i := 875) (by decide +kernel)), (fun _ _ => List.mem_of_getElem? (i := 876) (by decide +kernel)), by decide +kernel, by decide +kernel, by decide +kernel, (fun h => by cases h), md_132⟩
set_option maxRecDepth 100000 in
theorem mo_133 : pi_okM (mn_133, prog_1_method_25_code, (10, 4, (some .int), false, mc_133)) 3 false := ⟨by decide +kernel, by decide +kernel, List.mem_of_getElem? (i := 885) (by decide +kernel), List.mem_of_getElem? (i := 81) (by decide +kernel), (fun h => by cases h), (fun _ => List.mem_of_getElem? (i := 883) (by decide +kernel)), (fun _ _ => List.mem_of_getElem? (i := 884) (by decide +kernel)), by decide +kernel, by decide +kernel, by decide +kernel, (fun h => by cases h), md_133⟩
set_option maxRecDepth 100000 in
theorem mo_134 : pi_okM (mn_134, prog_1_method_26_code, (10, 2, (some .int), false, mc_134)) 1 false := ⟨by decide +kernel, by decide +kernel, List.mem_of_getElem? (i := 911) (by decide +kernel), List.mem_of_getElem? (i := 81) (by decide +kernel), (fun h => by cases h), (fun _ => List.mem_of_getElem? (i := 909) (by decide +kernel)), (fun _ _ => List.mem_of_getElem? (i := 910) (by decide +kernel)), by decide +kernel, by decide +kernel, by decide +kernel, (fun h => by cases h), md_134⟩
set_option maxRecDepth 100000 in
theorem mo_135 : pi_okM (mn_135, prog_1_method_27_code, (10, 6, (some .int), false, mc_135)) 2 false := ⟨by decide +kernel, by decide +kernel, List.mem_of_getElem? (i := 915) (by decide +kernel), List.mem_of_getElem? (i := 81) (by decide +kernel), (fun h => by cases h), (fun _ => List.mem_of_getElem? (i := 913) (by decide +kernel)), (fun _ _ => List.mem_of_getElem? (i := 914) (by decide +kernel)), by decide +kernel, by decide +kernel, by decide +kernel, (fun h => by cases h), md_135⟩
set_option maxRecDepth 100000 in
theorem mo_136 : pi_okM (mn_136, prog_1_method_28_code, (10, 9, (some .int), false, mc_136)) 3 false := ⟨by decide +kernel, by decide +kernel, List.mem_of_getElem? (i := 920) (by decide +kernel), List.mem_of_getElem? (i := 81) (by decide +kernel), (fun h => by cases h), (fun _ => List.mem_of_getElem? (i := 918) (by decide +kernel)), (fun _ _ => List.mem_of_getElem? (i := 919) (by decide +kernel)), by decide +kernel, by decide +kernel, by decide +kernel, (fun h => by cases h), md_136⟩
set_option maxRecDepth 100000 in
theorem mo_137 : pi_okM (mn_137, prog_1_method_29_code, (10, 8, (some .int), false, mc_137)) 2 false := ⟨by decide +kernel, by decide +kernel, List.mem_of_getElem? (i := 934) (by decide +kernel), List.mem_of_getElem? (i := 81) (by decide +kernel), (fun h => by cases h), (fun _ => List.mem_of_getElem? (i := 932) (by decide +kernel)), (fun _ _ => List.mem_of_getElem? (i := 933) (by decide +kernel)), by decide +kernel, by decide +kernel, by decide +kernel, (fun h => by cases h), md_137⟩
set_option maxRecDepth 100000 in
theorem mo_138 : pi_okM (mn_138, prog_1_method_30_code, (10, 1, (some .int), false, mc_138)) 0 false := ⟨by decide +kernel, by decide +kernel, List.mem_of_getElem? (i := 947) (by decide +kernel), List.mem_of_getElem? (i := 81) (by decide +kernel), (fun h => by cases h), (fun _ => List.mem_of_getElem? (i := 945) (by decide +kernel)), (fun _ _ => List.mem_of_getElem? (i := 946) (by decide +kernel)), by decide +kernel, by decide +kernel, by decide +kernel, (fun h => by cases h), md_138⟩
set_option maxRecDepth 100000 in
theorem mo_139 : pi_okM (mn_139, prog_1_method_31_code, (10, 5, (some .int), false, mc_139)) 1 false := ⟨by decide +kernel, by decide +kernel, List.mem_of_getElem? (i := 951) (by decide +kernel), List.mem_of_getElem? (i := 81) (by decide +kernel), (fun h => by cases h), (fun _ => List.mem_of_getElem? (i := 949) (by decide +kernel)), (fun _ _ => List.mem_of_getElem? (i := 950) (by decide +kernel)), by decide +kernel, by decide +kernel, by decide +kernel, (fun h => by cases h), md_139⟩
set_option maxRecDepth 100000 in
theorem mo_140 : pi_okM (mn_140, prog_1_method_32_code, (10, 1, (some .int), false, mc_140)) 0 false := ⟨by decide +kernel, by decide +kernel, List.mem_of_getElem? (i := 959) (by decide +kernel), List.mem_of_getElem? (i := 81) (by decide +kernel), (fun h => by cases h), (fun _ => List.mem_of_getElem? (i := 957) (by decide +kernel)), (fun _ _ => List.mem_of_getElem? (i := 958) (by decide +kernel)), by decide +kernel, by decide +kernel, by decide +kernel, (fun h => by cases h), md_140⟩
set_option maxRecDepth 100000 in
theorem mo_141 : pi_okM (mn_141, prog_1_method_33_code, (10, 5, (some .int), false, mc_141)) 3 false := ⟨by decide +kernel, by decide +kernel, List.mem_of_getElem? (i := 963) (by decide +kernel), List.mem_of_getElem? (i := 81) (by decide +kernel), (fun h => by cases h), (fun _ => List.mem_of_getElem? (i := 961) (by decide +kernel)), (fun _ _ => List.mem_of_getElem? (i := 962) (by decide +kernel)), by decide +kernel, by decide +kernel, by decide +kernel, (fun h => by cases h), md_141⟩
set_option maxRecDepth 100000 in
theorem mo_142 : pi_okM (mn_142, prog_1_method_34_code, (10, 2, (some .int), false, mc_142)) 1 false := ⟨by decide +kernel, by decide +kernel, List.mem_of_getElem? (i := 967) (by decide +kernel), List.mem_of_getElem? (i := 81) (by decide +kernel), (fun h => by cases h), (fun _ => List.mem_of_getElem? (i := 965) (by decide +kernel)), (fun _ _ => List.mem_of_getElem? (i := 966) (by decide +kernel)), by decide +kernel, by decide +kernel, by decide +kernel, (fun h => by cases h), md_142⟩
set_option maxRecDepth 100000 in
theorem mo_143 : pi_okM (mn_143, prog_1_method_35_code, (10, 4, (some .int), false, mc_143)) 2 false := ⟨by decide +kernel, by decide +kernel, List.mem_of_getElem? (i := 975) (by decide +kernel), List.mem_of_getElem? (i := 81) (by decide +kernel), (fun h => by cases h), (fun _ => List.mem_of_getElem? (i := 973) (by decide +kernel)), (fun _ _ => List.mem_of_getElem? (i := 974) (by decide +kernel)), by decide +kernel, by decide +kernel, by decide +kernel, (fun h => by cases h), md_143⟩
set_option maxRecDepth 100000 in
theorem mo_144 : pi_okM (mn_144, prog_1_method_36_code, (10, 6, (some .int), false, mc_144)) 3 false := ⟨by decide +kernel, by decide +kernel, List.mem_of_getElem? (i := 995) (by decide +kernel), List.mem_of_getElem? (i := 81) (by decide +kernel), (fun h => by cases h), (fun _ => List.mem_of_getElem? (i := 993) (by decide +kernel)), (fun _ _ => List.mem_of_getElem? (i := 994) (by decide +kernel)), by decide +kernel, by decide +kernel, by decide +kernel, (fun h => by cases h), md_144⟩
set_option maxRecDepth 100000 in
theorem mo_145 : pi_okM (mn_145, prog_1_method_37_code, (10, 3, (some .int), false, mc_145)) 1 false := ⟨by decide +kernel, by decide +kernel, List.mem_of_getElem? (i := 999) (by decide +kernel), List.mem_of_getElem? (i := 81) (by decide +kernel), (fun h => by cases h), (fun _ => List.mem_of_getElem? (i := 997) (by decide +kernel)), (fun _ _ => List.mem_of_getElem? (i := 998) (by decide +kernel)), by decide +kernel, by decide +kernel, by decide +kernel, (fun h => by cases h), md_145⟩
set_option maxRecDepth 100000 in
theorem mo_146 : pi_okM (mn_146, prog_1_method_38_code, (10, 2, (some .int), false, mc_146)) 1 false := ⟨by decide +kernel, by decide +kernel, List.mem_of_getElem? (i := 1037) (by decide +kernel), List.mem_of_getElem? (i := 81) (by decide +kernel), (fun h => by cases h), (fun _ => List.mem_of_getElem? (i := 1035) (by decide +kernel)), (fun _ _ => List.mem_of_getElem? (i := 1036) (by decide +kernel)), by decide +kernel, by decide +kernel, by decide +kernel, (fun h => by cases h), md_146⟩
set_option maxRecDepth 100000 in
theorem mo_147 : pi_okM (mn_147, prog_1_method_39_code, (10, 2, (some .int), false, mc_147)) 0 false := ⟨by decide +kernel, by decide +kernel, List.mem_of_getElem? (i := 1041) (by decide +kernel), List.mem_of_getElem? (i := 81) (by decide +kernel), (fun h => by cases h), (fun _ => List.mem_of_getElem? (i := 1039) (by decide +kernel)), (fun _ _ => List.mem_of_getElem? (i := 1040) (by decide +kernel)), by decide +kernel, by decide +kernel, by decide +kernel, (fun h => by cases h), md_147⟩
set_option maxRecDepth 100000 in
theorem mo_148 : pi_okM (mn_148, prog_1_method_40_code, (10, 5, (some .int), false, mc_148)) 1 false := ⟨by decide +kernel, by decide +kernel, List.mem_of_getElem? (i := 1086) (by decide +kernel), List.mem_of_getElem? (i := 81) (by decide +kernel), (fun h => by cases h), (fun _ => List.mem_of_getElem? (i := 1084) (by decide +kernel)), (fun _ _ => List.mem_of_getElem? (i := 1085) (by decide +kernel)), by decide +kernel, by decide +kernel, by decide +kernel, (fun h => by cases h), md_148⟩
set_option maxRecDepth 100000 in
theorem mo_149 : pi_okM (mn_149, prog_1_method_41_code, (10, 2, (some .boolean), false, mc_149)) 1 false := ⟨by decide +kernel, by decide +kernel, List.mem_of_getElem? (i := 1110) (by decide +kernel), List.mem_of_getElem? (i := 81) (by decide +kernel), (fun h => by cases h), (fun _ => List.mem_of_getElem? (i := 1108) (by decide +kernel)), (fun _ _ => List.mem_of_getElem? (i := 1109) (by decide +kernel)), by decide +kernel, by decide +kernel, by decide +kernel, (fun h => by cases h), md_149⟩
set_option maxRecDepth 100000 in
theorem mo_150 : pi_okM (mn_150, prog_1_method_42_code, (10, 2, (some .boolean), false, mc_150)) 1 false := ⟨by decide +kernel, by decide +kernel, List.mem_of_getElem? (i := 1125) (by decide +kernel), List.mem_of_getElem? (i := 81) (by decide +kernel), (fun h => by cases h), (fun _ => List.mem_of_getElem? (i := 1123) (by decide +kernel)), (fun _ _ => List.mem_of_getElem? (i := 1124) (by decide +kernel)), by decide +kernel, by decide +kernel, by decide +kernel, (fun h => by cases h), md_150⟩
set_option maxRecDepth 100000 in
theorem mo_151 : pi_okM (mn_151, prog_1_method_43_code, (10, 2, (some .int), false, mc_151)) 1 false := ⟨by decide +kernel, by decide +kernel, List.mem_of_getElem? (i := 925) (by decide +kernel), List.mem_of_getElem? (i := 81) (by decide +kernel), (fun h => by cases h), (fun _ => List.mem_of_getElem? (i := 923) (by decide +kernel)), (fun _ _ => List.mem_of_getElem? (i := 924) (by decide +kernel)), by decide +kernel, by decide +kernel, by decide +kernel, (fun h => by cases h), md_151⟩
set_option maxRecDepth 100000 in
theorem mo_152 : pi_okM (mn_152, prog_1_method_44_code, (10, 3, (some .boolean), false, mc_152)) 2 false := ⟨by decide +kernel, by decide +kernel, List.mem_of_getElem? (i := 675) (by decide +kernel), List.mem_of_getElem? (i := 81) (by decide +kernel), (fun h => by cases h), (fun _ => List.mem_of_getElem? (i := 674) (by decide +kernel)), (fun _ _ => List.mem_of_getElem? (i := 0) (by decide +kernel)), by decide +kernel, by decide +kernel, by decide +kernel, (fun h => by cases h), md_152⟩
set_option maxRecDepth 100000 in
theorem mo_153 : pi_okM (mn_153, prog_1_method_45_code, (10, 3, (some .boolean), false, mc_153)) 2 false := ⟨by decide +kernel, by decide +kernel, List.mem_of_getElem? (i := 889) (by decide +kernel), List.mem_of_getElem? (i := 81) (by decide +kernel), (fun h => by cases h), (fun _ => List.mem_of_getElem? (i := 888) (by decide +kernel)), (fun _ _ => List.mem_of_getElem? (i := 3) (by decide +kernel)), by decide +kernel, by decide +kernel, by decide +kernel, (fun h => by cases h), md_153⟩
set_option maxRecDepth 100000 in
theorem mo_154 : pi_okM (mn_154, prog_1_method_46_code, (10, 3, (some .boolean), false, mc_154)) 2 false := ⟨by decide +kernel, by decide +kernel, List.mem_of_getElem? (i := 841) (by decide +kernel), List.mem_of_getElem? (i := 81) (by decide +kernel), (fun h => by cases h), (fun _ => List.mem_of_getElem? (i := 840) (by decide +kernel)), (fun _ _ => List.mem_of_getElem? (i := 2) (by decide +kernel)), by decide +kernel, by decide +kernel, by decide +kernel, (fun h => by cases h), md_154⟩
set_option maxRecDepth 100000 in
theorem mo_155 : pi_okM (mn_155, prog_1_method_47_code, (10, 2, (some (.object "ReadBound$Image")), false, mc_155)) 1 false := ⟨by decide +kernel, by decide +kernel, List.mem_of_getElem? (i := 1114) (by decide +kernel), List.mem_of_getElem? (i := 81) (by decide +kernel), (fun h => by cases h), (fun _ => List.mem_of_getElem? (i := 1113) (by decide +kernel)), (fun _ _ => List.mem_of_getElem? (i := 6) (by decide +kernel)), by decide +kernel, by decide +kernel, by decide +kernel, (fun h => by cases h), md_155⟩
set_option maxRecDepth 100000 in
theorem mo_156 : pi_okM (mn_156, prog_1_method_48_code, (10, 5, (some .int), false, mc_156)) 3 false := ⟨by decide +kernel, by decide +kernel, List.mem_of_getElem? (i := 747) (by decide +kernel), List.mem_of_getElem? (i := 81) (by decide +kernel), (fun h => by cases h), (fun _ => List.mem_of_getElem? (i := 746) (by decide +kernel)), (fun _ _ => List.mem_of_getElem? (i := 1) (by decide +kernel)), by decide +kernel, by decide +kernel, by decide +kernel, (fun h => by cases h), md_156⟩
set_option maxRecDepth 100000 in
theorem mo_157 : pi_okM (mn_157, prog_1_method_49_code, (10, 5, (some .int), false, mc_157)) 2 false := ⟨by decide +kernel, by decide +kernel, List.mem_of_getElem? (i := 938) (by decide +kernel), List.mem_of_getElem? (i := 81) (by decide +kernel), (fun h => by cases h), (fun _ => List.mem_of_getElem? (i := 937) (by decide +kernel)), (fun _ _ => List.mem_of_getElem? (i := 4) (by decide +kernel)), by decide +kernel, by decide +kernel, by decide +kernel, (fun h => by cases h), md_157⟩
set_option maxRecDepth 100000 in
theorem mo_158 : pi_okM (mn_158, prog_1_method_50_code, (10, 8, (some .int), false, mc_158)) 1 false := ⟨by decide +kernel, by decide +kernel, List.mem_of_getElem? (i := 1032) (by decide +kernel), List.mem_of_getElem? (i := 81) (by decide +kernel), (fun h => by cases h), (fun _ => List.mem_of_getElem? (i := 1031) (by decide +kernel)), (fun _ _ => List.mem_of_getElem? (i := 5) (by decide +kernel)), by decide +kernel, by decide +kernel, by decide +kernel, (fun h => by cases h), md_158⟩
set_option maxRecDepth 100000 in
theorem mo_159 : pi_okM (mn_159, prog_1_method_51_code, (10, 2, (some .int), false, mc_159)) 2 true := ⟨by decide +kernel, by decide +kernel, List.mem_of_getElem? (i := 522) (by decide +kernel), List.mem_of_getElem? (i := 81) (by decide +kernel), (fun _ => List.mem_of_getElem? (i := 521) (by decide +kernel)), (fun h => by cases h), (fun h => by cases h), by decide +kernel, by decide +kernel, by decide +kernel, (fun h => by cases h), md_159⟩
set_option maxRecDepth 100000 in
theorem mo_160 : pi_okM (mn_160, prog_1_method_52_code, (10, 3, none, false, mc_160)) 3 true := ⟨by decide +kernel, by decide +kernel, List.mem_of_getElem? (i := 547) (by decide +kernel), List.mem_of_getElem? (i := 81) (by decide +kernel), (fun _ => List.mem_of_getElem? (i := 546) (by decide +kernel)), (fun h => by cases h), (fun h => by cases h), by decide +kernel, by decide +kernel, by decide +kernel, (fun h => by cases h), md_160⟩
set_option maxRecDepth 100000 in
theorem mo_161 : pi_okM (mn_161, prog_1_method_53_code, (10, 2, none, false, mc_161)) 2 true := ⟨by decide +kernel, by decide +kernel, List.mem_of_getElem? (i := 631) (by decide +kernel), List.mem_of_getElem? (i := 81) (by decide +kernel), (fun _ => List.mem_of_getElem? (i := 630) (by decide +kernel)), (fun h => by cases h), (fun h => by cases h), by decide +kernel, by decide +kernel, by decide +kernel, (fun h => by cases h), md_161⟩
set_option maxRecDepth 100000 in
theorem mo_162 : pi_okM (mn_162, prog_13_method_2_code, (11, 2, (some .boolean), false, mc_162)) 1 false := ⟨by decide +kernel, by decide +kernel, List.mem_of_getElem? (i := 1516) (by decide +kernel), List.mem_of_getElem? (i := 96) (by decide +kernel), (fun h => by cases h), (fun _ => List.mem_of_getElem? (i := 1515) (by decide +kernel)), (fun _ _ => List.mem_of_getElem? (i := 32) (by decide +kernel)), by decide +kernel, by decide +kernel, by decide +kernel, (fun h => by cases h), md_162⟩
set_option maxRecDepth 100000 in
theorem mo_163 : pi_okM (mn_163, prog_13_method_3_code, (11, 6, (some .int), false, mc_163)) 5 false := ⟨by decide +kernel, by decide +kernel, List.mem_of_getElem? (i := 1203) (by decide +kernel), List.mem_of_getElem? (i := 96) (by decide +kernel), (fun h => by cases h), (fun _ => List.mem_of_getElem? (i := 1201) (by decide +kernel)), (fun _ _ => List.mem_of_getElem? (i := 1202) (by decide +kernel)), by decide +kernel, by decide +kernel, by decide +kernel, (fun h => by cases h), md_163⟩
set_option maxRecDepth 100000 in
theorem mo_164 : pi_okM (mn_164, prog_13_method_4_code, (11, 3, none, false, mc_164)) 1 false := ⟨by decide +kernel, by decide +kernel, List.mem_of_getElem? (i := 1208) (by decide +kernel), List.mem_of_getElem? (i := 96) (by decide +kernel), (fun h => by cases h), (fun _ => List.mem_of_getElem? (i := 1206) (by decide +kernel)), (fun _ _ => List.mem_of_getElem? (i := 8) (by decide +kernel)), by decide +kernel, by decide +kernel, by decide +kernel, (fun h => by cases h), md_164⟩
set_option maxRecDepth 100000 in
theorem mo_165 : pi_okM (mn_165, prog_13_method_5_code, (11, 2, (some .boolean), false, mc_165)) 1 false := ⟨by decide +kernel, by decide +kernel, List.mem_of_getElem? (i := 1212) (by decide +kernel), List.mem_of_getElem? (i := 96) (by decide +kernel), (fun h => by cases h), (fun _ => List.mem_of_getElem? (i := 1210) (by decide +kernel)), (fun _ _ => List.mem_of_getElem? (i := 1211) (by decide +kernel)), by decide +kernel, by decide +kernel, by decide +kernel, (fun h => by cases h), md_165⟩
set_option maxRecDepth 100000 in
theorem mo_166 : pi_okM (mn_166, prog_13_method_6_code, (11, 2, none, false, mc_166)) 1 false := ⟨by decide +kernel, by decide +kernel, List.mem_of_getElem? (i := 1391) (by decide +kernel), List.mem_of_getElem? (i := 96) (by decide +kernel), (fun h => by cases h), (fun _ => List.mem_of_getElem? (i := 1390) (by decide +kernel)), (fun _ _ => List.mem_of_getElem? (i := 9) (by decide +kernel)), by decide +kernel, by decide +kernel, by decide +kernel, (fun h => by cases h), md_166⟩
set_option maxRecDepth 100000 in
theorem mo_167 : pi_okM (mn_167, prog_13_method_7_code, (11, 3, (some .boolean), false, mc_167)) 3 true := ⟨by decide +kernel, by decide +kernel, List.mem_of_getElem? (i := 1459) (by decide +kernel), List.mem_of_getElem? (i := 96) (by decide +kernel), (fun _ => List.mem_of_getElem? (i := 1458) (by decide +kernel)), (fun h => by cases h), (fun h => by cases h), by decide +kernel, by decide +kernel, by decide +kernel, (fun h => by cases h), md_167⟩
set_option maxRecDepth 100000 in
theorem mo_168 : pi_okM (mn_168, prog_13_method_8_code, (11, 2, (some .boolean), false, mc_168)) 2 true := ⟨by decide +kernel, by decide +kernel, List.mem_of_getElem? (i := 1444) (by decide +kernel), List.mem_of_getElem? (i := 96) (by decide +kernel), (fun _ => List.mem_of_getElem? (i := 1443) (by decide +kernel)), (fun h => by cases h), (fun h => by cases h), by decide +kernel, by decide +kernel, by decide +kernel, (fun h => by cases h), md_168⟩
set_option maxRecDepth 100000 in
theorem mo_169 : pi_okM (mn_169, prog_13_method_9_code, (11, 2, (some .int), false, mc_169)) 2 true := ⟨by decide +kernel, by decide +kernel, List.mem_of_getElem? (i := 1485) (by decide +kernel), List.mem_of_getElem? (i := 96) (by decide +kernel), (fun _ => List.mem_of_getElem? (i := 1484) (by decide +kernel)), (fun h => by cases h), (fun h => by cases h), by decide +kernel, by decide +kernel, by decide +kernel, (fun h => by cases h), md_169⟩
set_option maxRecDepth 100000 in
theorem mo_170 : pi_okM (mn_170, prog_13_method_10_code, (11, 2, (some .int), false, mc_170)) 2 true := ⟨by decide +kernel, by decide +kernel, List.mem_of_getElem? (i := 1492) (by decide +kernel), List.mem_of_getElem? (i := 96) (by decide +kernel), (fun _ => List.mem_of_getElem? (i := 1491) (by decide +kernel)), (fun h => by cases h), (fun h => by cases h), by decide +kernel, by decide +kernel, by decide +kernel, (fun h => by cases h), md_170⟩
set_option maxRecDepth 100000 in
theorem mo_171 : pi_okM (mn_171, prog_13_method_11_code, (11, 3, (some .int), false, mc_171)) 1 true := ⟨by decide +kernel, by decide +kernel, List.mem_of_getElem? (i := 1531) (by decide +kernel), List.mem_of_getElem? (i := 96) (by decide +kernel), (fun _ => List.mem_of_getElem? (i := 1530) (by decide +kernel)), (fun h => by cases h), (fun h => by cases h), by decide +kernel, by decide +kernel, by decide +kernel, (fun h => by cases h), md_171⟩
set_option maxRecDepth 100000 in
theorem mo_172 : pi_okM (mn_172, prog_13_method_12_code, (11, 1, none, true, mc_172)) 0 false := ⟨by decide +kernel, by decide +kernel, List.mem_of_getElem? (i := 1216) (by decide +kernel), List.mem_of_getElem? (i := 96) (by decide +kernel), (fun h => by cases h), (fun _ => List.mem_of_getElem? (i := 1215) (by decide +kernel)), (fun _ h => by cases h), by decide +kernel, by decide +kernel, by decide +kernel, (fun _ => by decide +kernel), md_172⟩
set_option maxRecDepth 100000 in
theorem mo_173 : pi_okM (mn_173, prog_13_method_13_code, (11, 1, (some .int), false, mc_173)) 0 false := ⟨by decide +kernel, by decide +kernel, List.mem_of_getElem? (i := 1399) (by decide +kernel), List.mem_of_getElem? (i := 96) (by decide +kernel), (fun h => by cases h), (fun _ => List.mem_of_getElem? (i := 1398) (by decide +kernel)), (fun _ _ => List.mem_of_getElem? (i := 11) (by decide +kernel)), by decide +kernel, by decide +kernel, by decide +kernel, (fun h => by cases h), md_173⟩
set_option maxRecDepth 100000 in
theorem mo_174 : pi_okM (mn_174, prog_13_method_14_code, (11, 1, (some .boolean), false, mc_174)) 1 true := ⟨by decide +kernel, by decide +kernel, List.mem_of_getElem? (i := 1402) (by decide +kernel), List.mem_of_getElem? (i := 96) (by decide +kernel), (fun _ => List.mem_of_getElem? (i := 1401) (by decide +kernel)), (fun h => by cases h), (fun h => by cases h), by decide +kernel, by decide +kernel, by decide +kernel, (fun h => by cases h), md_174⟩
set_option maxRecDepth 100000 in
theorem mo_175 : pi_okM (mn_175, prog_13_method_15_code, (11, 1, (some .boolean), false, mc_175)) 1 true := ⟨by decide +kernel, by decide +kernel, List.mem_of_getElem? (i := 1405) (by decide +kernel), List.mem_of_getElem? (i := 96) (by decide +kernel), (fun _ => List.mem_of_getElem? (i := 1404) (by decide +kernel)), (fun h => by cases h), (fun h => by cases h), by decide +kernel, by decide +kernel, by decide +kernel, (fun h => by cases h), md_175⟩
set_option maxRecDepth 100000 in
theorem mo_176 : pi_okM (mn_176, prog_13_method_16_code, (11, 4, none, false, mc_176)) 0 false := ⟨by decide +kernel, by decide +kernel, List.mem_of_getElem? (i := 1395) (by decide +kernel), List.mem_of_getElem? (i := 96) (by decide +kernel), (fun h => by cases h), (fun _ => List.mem_of_getElem? (i := 1394) (by decide +kernel)), (fun _ _ => List.mem_of_getElem? (i := 10) (by decide +kernel)), by decide +kernel, by decide +kernel, by decide +kernel, (fun h => by cases h), md_176⟩
set_option maxRecDepth 100000 in
theorem mo_177 : pi_okM (mn_177, prog_13_method_17_code, (11, 2, (some .boolean), false, mc_177)) 1 false := ⟨by decide +kernel, by decide +kernel, List.mem_of_getElem? (i := 1417) (by decide +kernel), List.mem_of_getElem? (i := 96) (by decide +kernel), (fun h => by cases h), (fun _ => List.mem_of_getElem? (i := 1416) (by decide +kernel)), (fun _ _ => List.mem_of_getElem? (i := 14) (by decide +kernel)), by decide +kernel, by decide +kernel, by decide +kernel, (fun h => by cases h), md_177⟩
set_option maxRecDepth 100000 in
theorem mo_178 : pi_okM (mn_178, prog_13_method_18_code, (11, 3, (some .boolean), false, mc_178)) 1 false := ⟨by decide +kernel, by decide +kernel, List.mem_of_getElem? (i := 1413) (by decide +kernel), List.mem_of_getElem? (i := 96) (by decide +kernel), (fun h => by cases h), (fun _ => List.mem_of_getElem? (i := 1412) (by decide +kernel)), (fun _ _ => List.mem_of_getElem? (i := 13) (by decide +kernel)), by decide +kernel, by decide +kernel, by decide +kernel, (fun h => by cases h), md_178⟩
set_option maxRecDepth 100000 in
theorem mo_179 : pi_okM (mn_179, prog_13_method_19_code, (11, 2, (some .boolean), false, mc_179)) 1 false := ⟨by decide +kernel, by decide +kernel, List.mem_of_getElem? (i := 1463) (by decide +kernel), List.mem_of_getElem? (i := 96) (by decide +kernel), (fun h => by cases h), (fun _ => List.mem_of_getElem? (i := 1462) (by decide +kernel)), (fun _ _ => List.mem_of_getElem? (i := 24) (by decide +kernel)), by decide +kernel, by decide +kernel, by decide +kernel, (fun h => by cases h), md_179⟩
set_option maxRecDepth 100000 in
theorem mo_180 : pi_okM (mn_180, prog_13_method_20_code, (11, 2, (some .boolean), false, mc_180)) 1 false := ⟨by decide +kernel, by decide +kernel, List.mem_of_getElem? (i := 1471) (by decide +kernel), List.mem_of_getElem? (i := 96) (by decide +kernel), (fun h => by cases h), (fun _ => List.mem_of_getElem? (i := 1470) (by decide +kernel)), (fun _ _ => List.mem_of_getElem? (i := 26) (by decide +kernel)), by decide +kernel, by decide +kernel, by decide +kernel, (fun h => by cases h), md_180⟩
set_option maxRecDepth 100000 in
theorem mo_181 : pi_okM (mn_181, prog_13_method_21_code, (11, 3, (some .boolean), false, mc_181)) 0 false := ⟨by decide +kernel, by decide +kernel, List.mem_of_getElem? (i := 1425) (by decide +kernel), List.mem_of_getElem? (i := 96) (by decide +kernel), (fun h => by cases h), (fun _ => List.mem_of_getElem? (i := 1424) (by decide +kernel)), (fun _ _ => List.mem_of_getElem? (i := 16) (by decide +kernel)), by decide +kernel, by decide +kernel, by decide +kernel, (fun h => by cases h), md_181⟩
set_option maxRecDepth 100000 in
theorem mo_182 : pi_okM (mn_182, prog_13_method_22_code, (11, 3, (some .boolean), false, mc_182)) 2 false := ⟨by decide +kernel, by decide +kernel, List.mem_of_getElem? (i := 1456) (by decide +kernel), List.mem_of_getElem? (i := 96) (by decide +kernel), (fun h => by cases h), (fun _ => List.mem_of_getElem? (i := 1455) (by decide +kernel)), (fun _ _ => List.mem_of_getElem? (i := 23) (by decide +kernel)), by decide +kernel, by decide +kernel, by decide +kernel, (fun h => by cases h), md_182⟩
set_option maxRecDepth 100000 in
theorem mo_183 : pi_okM (mn_183, prog_13_method_23_code, (11, 4, (some .boolean), false, mc_183)) 3 false := ⟨by decide +kernel, by decide +kernel, List.mem_of_getElem? (i := 1452) (by decide +kernel), List.mem_of_getElem? (i := 96) (by decide +kernel), (fun h => by cases h), (fun _ => List.mem_of_getElem? (i := 1451) (by decide +kernel)), (fun _ _ => List.mem_of_getElem? (i := 22) (by decide +kernel)), by decide +kernel, by decide +kernel, by decide +kernel, (fun h => by cases h), md_183⟩
set_option maxRecDepth 100000 in
theorem mo_184 : pi_okM (mn_184, prog_13_method_24_code, (11, 4, (some .int), false, mc_184)) 2 false := ⟨by decide +kernel, by decide +kernel, List.mem_of_getElem? (i := 1429) (by decide +kernel), List.mem_of_getElem? (i := 96) (by decide +kernel), (fun h => by cases h), (fun _ => List.mem_of_getElem? (i := 1428) (by decide +kernel)), (fun _ _ => List.mem_of_getElem? (i := 17) (by decide +kernel)), by decide +kernel, by decide +kernel, by decide +kernel, (fun h => by cases h), md_184⟩
set_option maxRecDepth 100000 in
theorem mo_185 : pi_okM (mn_185, prog_13_method_25_code, (11, 2, (some .boolean), false, mc_185)) 1 false := ⟨by decide +kernel, by decide +kernel, List.mem_of_getElem? (i := 1421) (by decide +kernel), List.mem_of_getElem? (i := 96) (by decide +kernel), (fun h => by cases h), (fun _ => List.mem_of_getElem? (i := 1420) (by decide +kernel)), (fun _ _ => List.mem_of_getElem? (i := 15) (by decide +kernel)), by decide +kernel, by decide +kernel, by decide +kernel, (fun h => by cases h), md_185⟩
set_option maxRecDepth 100000 in
theorem mo_186 : pi_okM (mn_186, prog_13_method_26_code, (11, 3, (some .boolean), false, mc_186)) 2 false := ⟨by decide +kernel, by decide +kernel, List.mem_of_getElem? (i := 1441) (by decide +kernel), List.mem_of_getElem? (i := 96) (by decide +kernel), (fun h => by cases h), (fun _ => List.mem_of_getElem? (i := 1440) (by decide +kernel)), (fun _ _ => List.mem_of_getElem? (i := 20) (by decide +kernel)), by decide +kernel, by decide +kernel, by decide +kernel, (fun h => by cases h), md_186⟩
set_option maxRecDepth 100000 in
theorem mo_187 : pi_okM (mn_187, prog_13_method_27_code, (11, 3, (some .boolean), false, mc_187)) 2 false := ⟨by decide +kernel, by decide +kernel, List.mem_of_getElem? (i := 1437) (by decide +kernel), List.mem_of_getElem? (i := 96) (by decide +kernel), (fun h => by cases h), (fun _ => List.mem_of_getElem? (i := 1436) (by decide +kernel)), (fun _ _ => List.mem_of_getElem? (i := 19) (by decide +kernel)), by decide +kernel, by decide +kernel, by decide +kernel, (fun h => by cases h), md_187⟩
set_option maxRecDepth 100000 in
theorem mo_188 : pi_okM (mn_188, prog_13_method_28_code, (11, 2, (some .boolean), false, mc_188)) 0 false := ⟨by decide +kernel, by decide +kernel, List.mem_of_getElem? (i := 1409) (by decide +kernel), List.mem_of_getElem? (i := 96) (by decide +kernel), (fun h => by cases h), (fun _ => List.mem_of_getElem? (i := 1408) (by decide +kernel)), (fun _ _ => List.mem_of_getElem? (i := 12) (by decide +kernel)), by decide +kernel, by decide +kernel, by decide +kernel, (fun h => by cases h), md_188⟩
set_option maxRecDepth 100000 in
theorem mo_189 : pi_okM (mn_189, prog_13_method_29_code, (11, 2, (some .boolean), false, mc_189)) 0 false := ⟨by decide +kernel, by decide +kernel, List.mem_of_getElem? (i := 1433) (by decide +kernel), List.mem_of_getElem? (i := 96) (by decide +kernel), (fun h => by cases h), (fun _ => List.mem_of_getElem? (i := 1432) (by decide +kernel)), (fun _ _ => List.mem_of_getElem? (i := 18) (by decide +kernel)), by decide +kernel, by decide +kernel, by decide +kernel, (fun h => by cases h), md_189⟩
set_option maxRecDepth 100000 in
theorem mo_190 : pi_okM (mn_190, prog_13_method_30_code, (11, 3, (some .boolean), false, mc_190)) 1 false := ⟨by decide +kernel, by decide +kernel, List.mem_of_getElem? (i := 1448) (by decide +kernel), List.mem_of_getElem? (i := 96) (by decide +kernel), (fun h => by cases h), (fun _ => List.mem_of_getElem? (i := 1447) (by decide +kernel)), (fun _ _ => List.mem_of_getElem? (i := 21) (by decide +kernel)), by decide +kernel, by decide +kernel, by decide +kernel, (fun h => by cases h), md_190⟩
set_option maxRecDepth 100000 in
theorem mo_191 : pi_okM (mn_191, prog_13_method_31_code, (11, 3, (some .boolean), false, mc_191)) 0 false := ⟨by decide +kernel, by decide +kernel, List.mem_of_getElem? (i := 1467) (by decide +kernel), List.mem_of_getElem? (i := 96) (by decide +kernel), (fun h => by cases h), (fun _ => List.mem_of_getElem? (i := 1466) (by decide +kernel)), (fun _ _ => List.mem_of_getElem? (i := 25) (by decide +kernel)), by decide +kernel, by decide +kernel, by decide +kernel, (fun h => by cases h), md_191⟩
set_option maxRecDepth 100000 in
theorem mo_192 : pi_okM (mn_192, prog_13_method_32_code, (11, 2, (some .int), false, mc_192)) 0 false := ⟨by decide +kernel, by decide +kernel, List.mem_of_getElem? (i := 1387) (by decide +kernel), List.mem_of_getElem? (i := 96) (by decide +kernel), (fun h => by cases h), (fun _ => List.mem_of_getElem? (i := 1385) (by decide +kernel)), (fun _ _ => List.mem_of_getElem? (i := 1386) (by decide +kernel)), by decide +kernel, by decide +kernel, by decide +kernel, (fun h => by cases h), md_192⟩
set_option maxRecDepth 100000 in
theorem mo_193 : pi_okM (mn_193, prog_13_method_33_code, (11, 1, (some .int), false, mc_193)) 0 false := ⟨by decide +kernel, by decide +kernel, List.mem_of_getElem? (i := 1496) (by decide +kernel), List.mem_of_getElem? (i := 96) (by decide +kernel), (fun h => by cases h), (fun _ => List.mem_of_getElem? (i := 1494) (by decide +kernel)), (fun _ _ => List.mem_of_getElem? (i := 1495) (by decide +kernel)), by decide +kernel, by decide +kernel, by decide +kernel, (fun h => by cases h), md_193⟩
set_option maxRecDepth 100000 in
theorem mo_194 : pi_okM (mn_194, prog_13_method_34_code, (11, 2, (some .boolean), false, mc_194)) 1 false := ⟨by decide +kernel, by decide +kernel, List.mem_of_getElem? (i := 1524) (by decide +kernel), List.mem_of_getElem? (i := 96) (by decide +kernel), (fun h => by cases h), (fun _ => List.mem_of_getElem? (i := 1523) (by decide +kernel)), (fun _ _ => List.mem_of_getElem? (i := 33) (by decide +kernel)), by decide +kernel, by decide +kernel, by decide +kernel, (fun h => by cases h), md_194⟩
set_option maxRecDepth 100000 in
theorem mo_195 : pi_okM (mn_195, prog_13_method_35_code, (11, 2, (some .boolean), false, mc_195)) 1 false := ⟨by decide +kernel, by decide +kernel, List.mem_of_getElem? (i := 1579) (by decide +kernel), List.mem_of_getElem? (i := 96) (by decide +kernel), (fun h => by cases h), (fun _ => List.mem_of_getElem? (i := 1578) (by decide +kernel)), (fun _ _ => List.mem_of_getElem? (i := 43) (by decide +kernel)), by decide +kernel, by decide +kernel, by decide +kernel, (fun h => by cases h), md_195⟩
set_option maxRecDepth 100000 in
theorem mo_196 : pi_okM (mn_196, prog_13_method_36_code, (11, 2, (some .boolean), false, mc_196)) 1 false := ⟨by decide +kernel, by decide +kernel, List.mem_of_getElem? (i := 1504) (by decide +kernel), List.mem_of_getElem? (i := 96) (by decide +kernel), (fun h => by cases h), (fun _ => List.mem_of_getElem? (i := 1503) (by decide +kernel)), (fun _ _ => List.mem_of_getElem? (i := 30) (by decide +kernel)), by decide +kernel, by decide +kernel, by decide +kernel, (fun h => by cases h), md_196⟩
set_option maxRecDepth 100000 in
theorem mo_197 : pi_okM (mn_197, prog_13_method_37_code, (11, 2, (some .boolean), false, mc_197)) 1 false := ⟨by decide +kernel, by decide +kernel, List.mem_of_getElem? (i := 1512) (by decide +kernel), List.mem_of_getElem? (i := 96) (by decide +kernel), (fun h => by cases h), (fun _ => List.mem_of_getElem? (i := 1511) (by decide +kernel)), (fun _ _ => List.mem_of_getElem? (i := 31) (by decide +kernel)), by decide +kernel, by decide +kernel, by decide +kernel, (fun h => by cases h), md_197⟩
set_option maxRecDepth 100000 in
theorem mo_198 : pi_okM (mn_198, prog_13_method_38_code, (11, 2, (some .int), false, mc_198)) 2 true := ⟨by decide +kernel, by decide +kernel, List.mem_of_getElem? (i := 1482) (by decide +kernel), List.mem_of_getElem? (i := 96) (by decide +kernel), (fun _ => List.mem_of_getElem? (i := 1481) (by decide +kernel)), (fun h => by cases h), (fun h => by cases h), by decide +kernel, by decide +kernel, by decide +kernel, (fun h => by cases h), md_198⟩
set_option maxRecDepth 100000 in
theorem mo_199 : pi_okM (mn_199, prog_13_method_39_code, (11, 4, none, false, mc_199)) 3 false := ⟨by decide +kernel, by decide +kernel, List.mem_of_getElem? (i := 1489) (by decide +kernel), List.mem_of_getElem? (i := 96) (by decide +kernel), (fun h => by cases h), (fun _ => List.mem_of_getElem? (i := 1488) (by decide +kernel)), (fun _ _ => List.mem_of_getElem? (i := 29) (by decide +kernel)), by decide +kernel, by decide +kernel, by decide +kernel, (fun h => by cases h), md_199⟩
set_option maxRecDepth 100000 in
theorem mo_200 : pi_okM (mn_200, prog_13_method_40_code, (11, 5, none, false, mc_200)) 2 false := ⟨by decide +kernel, by decide +kernel, List.mem_of_getElem? (i := 1479) (by decide +kernel), List.mem_of_getElem? (i := 96) (by decide +kernel), (fun h => by cases h), (fun _ => List.mem_of_getElem? (i := 1478) (by decide +kernel)), (fun _ _ => List.mem_of_getElem? (i := 28) (by decide +kernel)), by decide +kernel, by decide +kernel, by decide +kernel, (fun h => by cases h), md_200⟩
set_option maxRecDepth 100000 in
theorem mo_201 : pi_okM (mn_201, prog_13_method_41_code, (11, 3, none, false, mc_201)) 1 false := ⟨by decide +kernel, by decide +kernel, List.mem_of_getElem? (i := 1475) (by decide +kernel), List.mem_of_getElem? (i := 96) (by decide +kernel), (fun h => by cases h), (fun _ => List.mem_of_getElem? (i := 1474) (by decide +kernel)), (fun _ _ => List.mem_of_getElem? (i := 27) (by decide +kernel)), by decide +kernel, by decide +kernel, by decide +kernel, (fun h => by cases h), md_201⟩
set_option maxRecDepth 100000 in
theorem mo_202 : pi_okM (mn_202, prog_13_method_42_code, (11, 4, (some .int), false, mc_202)) 2 false := ⟨by decide +kernel, by decide +kernel, List.mem_of_getElem? (i := 1547) (by decide +kernel), List.mem_of_getElem? (i := 96) (by decide +kernel), (fun h => by cases h), (fun _ => List.mem_of_getElem? (i := 1546) (by decide +kernel)), (fun _ _ => List.mem_of_getElem? (i := 37) (by decide +kernel)), by decide +kernel, by decide +kernel, by decide +kernel, (fun h => by cases h), md_202⟩
set_option maxRecDepth 100000 in
theorem mo_203 : pi_okM (mn_203, prog_13_method_43_code, (11, 4, (some .boolean), false, mc_203)) 2 false := ⟨by decide +kernel, by decide +kernel, List.mem_of_getElem? (i := 1551) (by decide +kernel), List.mem_of_getElem? (i := 96) (by decide +kernel), (fun h => by cases h), (fun _ => List.mem_of_getElem? (i := 1550) (by decide +kernel)), (fun _ _ => List.mem_of_getElem? (i := 38) (by decide +kernel)), by decide +kernel, by decide +kernel, by decide +kernel, (fun h => by cases h), md_203⟩
set_option maxRecDepth 100000 in
theorem mo_204 : pi_okM (mn_204, prog_13_method_44_code, (11, 4, (some .boolean), false, mc_204)) 2 false := ⟨by decide +kernel, by decide +kernel, List.mem_of_getElem? (i := 1543) (by decide +kernel), List.mem_of_getElem? (i := 96) (by decide +kernel), (fun h => by cases h), (fun _ => List.mem_of_getElem? (i := 1542) (by decide +kernel)), (fun _ _ => List.mem_of_getElem? (i := 36) (by decide +kernel)), by decide +kernel, by decide +kernel, by decide +kernel, (fun h => by cases h), md_204⟩
set_option maxRecDepth 100000 in
theorem mo_205 : pi_okM (mn_205, prog_13_method_45_code, (11, 4, (some .int), false, mc_205)) 1 false := ⟨by decide +kernel, by decide +kernel, List.mem_of_getElem? (i := 1539) (by decide +kernel), List.mem_of_getElem? (i := 96) (by decide +kernel), (fun h => by cases h), (fun _ => List.mem_of_getElem? (i := 1538) (by decide +kernel)), (fun _ _ => List.mem_of_getElem? (i := 35) (by decide +kernel)), by decide +kernel, by decide +kernel, by decide +kernel, (fun h => by cases h), md_205⟩
set_option maxRecDepth 100000 in
theorem mo_206 : pi_okM (mn_206, prog_13_method_46_code, (11, 4, (some .int), false, mc_206)) 1 false := ⟨by decide +kernel, by decide +kernel, List.mem_of_getElem? (i := 1591) (by decide +kernel), List.mem_of_getElem? (i := 96) (by decide +kernel), (fun h => by cases h), (fun _ => List.mem_of_getElem? (i := 1590) (by decide +kernel)), (fun _ _ => List.mem_of_getElem? (i := 46) (by decide +kernel)), by decide +kernel, by decide +kernel, by decide +kernel, (fun h => by cases h), md_206⟩
set_option maxRecDepth 100000 in
theorem mo_207 : pi_okM (mn_207, prog_13_method_47_code, (11, 2, (some .int), false, mc_207)) 1 false := ⟨by decide +kernel, by decide +kernel, List.mem_of_getElem? (i := 1587) (by decide +kernel), List.mem_of_getElem? (i := 96) (by decide +kernel), (fun h => by cases h), (fun _ => List.mem_of_getElem? (i := 1586) (by decide +kernel)), (fun _ _ => List.mem_of_getElem? (i := 45) (by decide +kernel)), by decide +kernel, by decide +kernel, by decide +kernel, (fun h => by cases h), md_207⟩
set_option maxRecDepth 100000 in
theorem mo_208 : pi_okM (mn_208, prog_13_method_48_code, (11, 4, (some .int), false, mc_208)) 1 false := ⟨by decide +kernel, by decide +kernel, List.mem_of_getElem? (i := 1619) (by decide +kernel), List.mem_of_getElem? (i := 96) (by decide +kernel), (fun h => by cases h), (fun _ => List.mem_of_getElem? (i := 1618) (by decide +kernel)), (fun _ _ => List.mem_of_getElem? (i := 51) (by decide +kernel)), by decide +kernel, by decide +kernel, by decide +kernel, (fun h => by cases h), md_208⟩
set_option maxRecDepth 100000 in
theorem mo_209 : pi_okM (mn_209, prog_13_method_49_code, (11, 5, (some .int), false, mc_209)) 2 false := ⟨by decide +kernel, by decide +kernel, List.mem_of_getElem? (i := 1500) (by decide +kernel), List.mem_of_getElem? (i := 96) (by decide +kernel), (fun h => by cases h), (fun _ => List.mem_of_getElem? (i := 1498) (by decide +kernel)), (fun _ _ => List.mem_of_getElem? (i := 1499) (by decide +kernel)), by decide +kernel, by decide +kernel, by decide +kernel, (fun h => by cases h), md_209⟩
set_option maxRecDepth 100000 in
theorem mo_210 : pi_okM (mn_210, prog_13_method_50_code, (11, 3, (some .int), false, mc_210)) 2 false := ⟨by decide +kernel, by decide +kernel, List.mem_of_getElem? (i := 1508) (by decide +kernel), List.mem_of_getElem? (i := 96) (by decide +kernel), (fun h => by cases h), (fun _ => List.mem_of_getElem? (i := 1506) (by decide +kernel)), (fun _ _ => List.mem_of_getElem? (i := 1507) (by decide +kernel)), by decide +kernel, by decide +kernel, by decide +kernel, (fun h => by cases h), md_210⟩
set_option maxRecDepth 100000 in
theorem mo_211 : pi_okM (mn_211, prog_13_method_51_code, (11, 5, (some .int), false, mc_211)) 2 false := ⟨by decide +kernel, by decide +kernel, List.mem_of_getElem? (i := 1520) (by decide +kernel), List.mem_of_getElem? (i := 96) (by decide +kernel), (fun h => by cases h), (fun _ => List.mem_of_getElem? (i := 1518) (by decide +kernel)), (fun _ _ => List.mem_of_getElem? (i := 1519) (by decide +kernel)), by decide +kernel, by decide +kernel, by decide +kernel, (fun h => by cases h), md_211⟩
set_option maxRecDepth 100000 in
theorem mo_212 : pi_okM (mn_212, prog_13_method_52_code, (11, 3, (some .int), false, mc_212)) 0 false := ⟨by decide +kernel, by decide +kernel, List.mem_of_getElem? (i := 1535) (by decide +kernel), List.mem_of_getElem? (i := 96) (by decide +kernel), (fun h => by cases h), (fun _ => List.mem_of_getElem? (i := 1534) (by decide +kernel)), (fun _ _ => List.mem_of_getElem? (i := 34) (by decide +kernel)), by decide +kernel, by decide +kernel, by decide +kernel, (fun h => by cases h), md_212⟩
set_option maxRecDepth 100000 in
theorem mo_213 : pi_okM (mn_213, prog_13_method_53_code, (11, 4, (some .int), false, mc_213)) 1 false := ⟨by decide +kernel, by decide +kernel, List.mem_of_getElem? (i := 1528) (by decide +kernel), List.mem_of_getElem? (i := 96) (by decide +kernel), (fun h => by cases h), (fun _ => List.mem_of_getElem? (i := 1526) (by decide +kernel)), (fun _ _ => List.mem_of_getElem? (i := 1527) (by decide +kernel)), by decide +kernel, by decide +kernel, by decide +kernel, (fun h => by cases h), md_213⟩
set_option maxRecDepth 100000 in
theorem mo_214 : pi_okM (mn_214, prog_13_method_54_code, (11, 3, (some .int), false, mc_214)) 2 false := ⟨by decide +kernel, by decide +kernel, List.mem_of_getElem? (i := 1559) (by decide +kernel), List.mem_of_getElem? (i := 96) (by decide +kernel), (fun h => by cases h), (fun _ => List.mem_of_getElem? (i := 1558) (by decide +kernel)), (fun _ _ => List.mem_of_getElem? (i := 39) (by decide +kernel)), by decide +kernel, by decide +kernel, by decide +kernel, (fun h => by cases h), md_214⟩
set_option maxRecDepth 100000 in
theorem mo_215 : pi_okM (mn_215, prog_13_method_55_code, (11, 3, none, false, mc_215)) 2 false := ⟨by decide +kernel, by decide +kernel, List.mem_of_getElem? (i := 1571) (by decide +kernel), List.mem_of_getElem? (i := 96) (by decide +kernel), (fun h => by cases h), (fun _ => List.mem_of_getElem? (i := 1570) (by decide +kernel)), (fun _ _ => List.mem_of_getElem? (i := 42) (by decide +kernel)), by decide +kernel, by decide +kernel, by decide +kernel, (fun h => by cases h), md_215⟩
set_option maxRecDepth 100000 in
theorem mo_216 : pi_okM (mn_216, prog_13_method_56_code, (11, 3, none, false, mc_216)) 2 false := ⟨by decide +kernel, by decide +kernel, List.mem_of_getElem? (i := 1567) (by decide +kernel), List.mem_of_getElem? (i := 96) (by decide +kernel), (fun h => by cases h), (fun _ => List.mem_of_getElem? (i := 1566) (by decide +kernel)), (fun _ _ => List.mem_of_getElem? (i := 41) (by decide +kernel)), by decide +kernel, by decide +kernel, by decide +kernel, (fun h => by cases h), md_216⟩
set_option maxRecDepth 100000 in
theorem mo_217 : pi_okM (mn_217, prog_13_method_57_code, (11, 3, (some .int), false, mc_217)) 2 false := ⟨by decide +kernel, by decide +kernel, List.mem_of_getElem? (i := 1583) (by decide +kernel), List.mem_of_getElem? (i := 96) (by decide +kernel), (fun h => by cases h), (fun _ => List.mem_of_getElem? (i := 1582) (by decide +kernel)), (fun _ _ => List.mem_of_getElem? (i := 44) (by decide +kernel)), by decide +kernel, by decide +kernel, by decide +kernel, (fun h => by cases h), md_217⟩
set_option maxRecDepth 100000 in
theorem mo_218 : pi_okM (mn_218, prog_13_method_58_code, (11, 2, none, false, mc_218)) 1 false := ⟨by decide +kernel, by decide +kernel, List.mem_of_getElem? (i := 1595) (by decide +kernel), List.mem_of_getElem? (i := 96) (by decide +kernel), (fun h => by cases h), (fun _ => List.mem_of_getElem? (i := 1594) (by decide +kernel)), (fun _ _ => List.mem_of_getElem? (i := 47) (by decide +kernel)), by decide +kernel, by decide +kernel, by decide +kernel, (fun h => by cases h), md_218⟩
set_option maxRecDepth 100000 in
theorem mo_219 : pi_okM (mn_219, prog_13_method_59_code, (11, 3, (some .int), false, mc_219)) 2 false := ⟨by decide +kernel, by decide +kernel, List.mem_of_getElem? (i := 1603) (by decide +kernel), List.mem_of_getElem? (i := 96) (by decide +kernel), (fun h => by cases h), (fun _ => List.mem_of_getElem? (i := 1602) (by decide +kernel)), (fun _ _ => List.mem_of_getElem? (i := 48) (by decide +kernel)), by decide +kernel, by decide +kernel, by decide +kernel, (fun h => by cases h), md_219⟩
set_option maxRecDepth 100000 in
theorem mo_220 : pi_okM (mn_220, prog_13_method_60_code, (11, 3, none, false, mc_220)) 2 false := ⟨by decide +kernel, by decide +kernel, List.mem_of_getElem? (i := 1607) (by decide +kernel), List.mem_of_getElem? (i := 96) (by decide +kernel), (fun h => by cases h), (fun _ => List.mem_of_getElem? (i := 1606) (by decide +kernel)), (fun _ _ => List.mem_of_getElem? (i := 49) (by decide +kernel)), by decide +kernel, by decide +kernel, by decide +kernel, (fun h => by cases h), md_220⟩
set_option maxRecDepth 100000 in
theorem mo_221 : pi_okM (mn_221, prog_13_method_61_code, (11, 2, (some .int), false, mc_221)) 1 false := ⟨by decide +kernel, by decide +kernel, List.mem_of_getElem? (i := 1615) (by decide +kernel), List.mem_of_getElem? (i := 96) (by decide +kernel), (fun h => by cases h), (fun _ => List.mem_of_getElem? (i := 1614) (by decide +kernel)), (fun _ _ => List.mem_of_getElem? (i := 50) (by decide +kernel)), by decide +kernel, by decide +kernel, by decide +kernel, (fun h => by cases h), md_221⟩
set_option maxRecDepth 100000 in
theorem mo_222 : pi_okM (mn_222, prog_13_method_62_code, (11, 3, none, false, mc_222)) 1 false := ⟨by decide +kernel, by decide +kernel, List.mem_of_getElem? (i := 1623) (by decide +kernel), List.mem_of_getElem? (i := 96) (by decide +kernel), (fun h => by cases h), (fun _ => List.mem_of_getElem? (i := 1622) (by decide +kernel)), (fun _ _ => List.mem_of_getElem? (i := 52) (by decide +kernel)), by decide +kernel, by decide +kernel, by decide +kernel, (fun h => by cases h), md_222⟩
set_option maxRecDepth 100000 in
theorem mo_223 : pi_okM (mn_223, prog_13_method_63_code, (11, 3, (some .int), false, mc_223)) 2 false := ⟨by decide +kernel, by decide +kernel, List.mem_of_getElem? (i := 1631) (by decide +kernel), List.mem_of_getElem? (i := 96) (by decide +kernel), (fun h => by cases h), (fun _ => List.mem_of_getElem? (i := 1630) (by decide +kernel)), (fun _ _ => List.mem_of_getElem? (i := 53) (by decide +kernel)), by decide +kernel, by decide +kernel, by decide +kernel, (fun h => by cases h), md_223⟩
set_option maxRecDepth 100000 in
theorem mo_224 : pi_okM (mn_224, prog_13_method_64_code, (11, 4, none, false, mc_224)) 2 false := ⟨by decide +kernel, by decide +kernel, List.mem_of_getElem? (i := 1635) (by decide +kernel), List.mem_of_getElem? (i := 96) (by decide +kernel), (fun h => by cases h), (fun _ => List.mem_of_getElem? (i := 1634) (by decide +kernel)), (fun _ _ => List.mem_of_getElem? (i := 54) (by decide +kernel)), by decide +kernel, by decide +kernel, by decide +kernel, (fun h => by cases h), md_224⟩
set_option maxRecDepth 100000 in
theorem mo_225 : pi_okM (mn_225, prog_13_method_65_code, (11, 2, (some .int), false, mc_225)) 1 false := ⟨by decide +kernel, by decide +kernel, List.mem_of_getElem? (i := 1643) (by decide +kernel), List.mem_of_getElem? (i := 96) (by decide +kernel), (fun h => by cases h), (fun _ => List.mem_of_getElem? (i := 1642) (by decide +kernel)), (fun _ _ => List.mem_of_getElem? (i := 55) (by decide +kernel)), by decide +kernel, by decide +kernel, by decide +kernel, (fun h => by cases h), md_225⟩
set_option maxRecDepth 100000 in
theorem mo_226 : pi_okM (mn_226, prog_13_method_66_code, (11, 2, none, false, mc_226)) 1 false := ⟨by decide +kernel, by decide +kernel, List.mem_of_getElem? (i := 1647) (by decide +kernel), List.mem_of_getElem? (i := 96) (by decide +kernel), (fun h => by cases h), (fun _ => List.mem_of_getElem? (i := 1646) (by decide +kernel)), (fun _ _ => List.mem_of_getElem? (i := 56) (by decide +kernel)), by decide +kernel, by decide +kernel, by decide +kernel, (fun h => by cases h), md_226⟩
set_option maxRecDepth 100000 in
theorem mo_227 : pi_okM (mn_227, prog_13_method_67_code, (11, 4, none, false, mc_227)) 1 false := ⟨by decide +kernel, by decide +kernel, List.mem_of_getElem? (i := 1663) (by decide +kernel), List.mem_of_getElem? (i := 96) (by decide +kernel), (fun h => by cases h), (fun _ => List.mem_of_getElem? (i := 1662) (by decide +kernel)), (fun _ _ => List.mem_of_getElem? (i := 59) (by decide +kernel)), by decide +kernel, by decide +kernel, by decide +kernel, (fun h => by cases h), md_227⟩
set_option maxRecDepth 100000 in
theorem mo_228 : pi_okM (mn_228, prog_13_method_68_code, (11, 2, none, false, mc_228)) 0 false := ⟨by decide +kernel, by decide +kernel, List.mem_of_getElem? (i := 1659) (by decide +kernel), List.mem_of_getElem? (i := 96) (by decide +kernel), (fun h => by cases h), (fun _ => List.mem_of_getElem? (i := 1658) (by decide +kernel)), (fun _ _ => List.mem_of_getElem? (i := 58) (by decide +kernel)), by decide +kernel, by decide +kernel, by decide +kernel, (fun h => by cases h), md_228⟩
set_option maxRecDepth 100000 in
theorem mo_229 : pi_okM (mn_229, prog_13_method_69_code, (11, 3, (some .int), false, mc_229)) 1 false := ⟨by decide +kernel, by decide +kernel, List.mem_of_getElem? (i := 1655) (by decide +kernel), List.mem_of_getElem? (i := 96) (by decide +kernel), (fun h => by cases h), (fun _ => List.mem_of_getElem? (i := 1654) (by decide +kernel)), (fun _ _ => List.mem_of_getElem? (i := 57) (by decide +kernel)), by decide +kernel, by decide +kernel, by decide +kernel, (fun h => by cases h), md_229⟩
set_option maxRecDepth 100000 in
theorem mo_230 : pi_okM (mn_230, prog_13_method_70_code, (11, 4, (some .int), false, mc_230)) 2 false := ⟨by decide +kernel, by decide +kernel, List.mem_of_getElem? (i := 1555) (by decide +kernel), List.mem_of_getElem? (i := 96) (by decide +kernel), (fun h => by cases h), (fun _ => List.mem_of_getElem? (i := 1553) (by decide +kernel)), (fun _ _ => List.mem_of_getElem? (i := 1554) (by decide +kernel)), by decide +kernel, by decide +kernel, by decide +kernel, (fun h => by cases h), md_230⟩
set_option maxRecDepth 100000 in
theorem mo_231 : pi_okM (mn_231, prog_13_method_71_code, (11, 3, (some .int), false, mc_231)) 2 false := ⟨by decide +kernel, by decide +kernel, List.mem_of_getElem? (i := 1575) (by decide +kernel), List.mem_of_getElem? (i := 96) (by decide +kernel), (fun h => by cases h), (fun _ => List.mem_of_getElem? (i := 1573) (by decide +kernel)), (fun _ _ => List.mem_of_getElem? (i := 1574) (by decide +kernel)), by decide +kernel, by decide +kernel, by decide +kernel, (fun h => by cases h), md_231⟩
set_option maxRecDepth 100000 in
theorem mo_232 : pi_okM (mn_232, prog_13_method_72_code, (11, 3, (some .int), false, mc_232)) 2 false := ⟨by decide +kernel, by decide +kernel, List.mem_of_getElem? (i := 1599) (by decide +kernel), List.mem_of_getElem? (i := 96) (by decide +kernel), (fun h => by cases h), (fun _ => List.mem_of_getElem? (i := 1597) (by decide +kernel)), (fun _ _ => List.mem_of_getElem? (i := 1598) (by decide +kernel)), by decide +kernel, by decide +kernel, by decide +kernel, (fun h => by cases h), md_232⟩
set_option maxRecDepth 100000 in
theorem mo_233 : pi_okM (mn_233, prog_13_method_73_code, (11, 2, (some .int), false, mc_233)) 1 false := ⟨by decide +kernel, by decide +kernel, List.mem_of_getElem? (i := 1611) (by decide +kernel), List.mem_of_getElem? (i := 96) (by decide +kernel), (fun h => by cases h), (fun _ => List.mem_of_getElem? (i := 1609) (by decide +kernel)), (fun _ _ => List.mem_of_getElem? (i := 1610) (by decide +kernel)), by decide +kernel, by decide +kernel, by decide +kernel, (fun h => by cases h), md_233⟩
set_option maxRecDepth 100000 in
theorem mo_234 : pi_okM (mn_234, prog_13_method_74_code, (11, 3, (some .int), false, mc_234)) 2 false := ⟨by decide +kernel, by decide +kernel, List.mem_of_getElem? (i := 1627) (by decide +kernel), List.mem_of_getElem? (i := 96) (by decide +kernel), (fun h => by cases h), (fun _ => List.mem_of_getElem? (i := 1625) (by decide +kernel)), (fun _ _ => List.mem_of_getElem? (i := 1626) (by decide +kernel)), by decide +kernel, by decide +kernel, by decide +kernel, (fun h => by cases h), md_234⟩
set_option maxRecDepth 100000 in
theorem mo_235 : pi_okM (mn_235, prog_13_method_75_code, (11, 2, (some .int), false, mc_235)) 1 false := ⟨by decide +kernel, by decide +kernel, List.mem_of_getElem? (i := 1639) (by decide +kernel), List.mem_of_getElem? (i := 96) (by decide +kernel), (fun h => by cases h), (fun _ => List.mem_of_getElem? (i := 1637) (by decide +kernel)), (fun _ _ => List.mem_of_getElem? (i := 1638) (by decide +kernel)), by decide +kernel, by decide +kernel, by decide +kernel, (fun h => by cases h), md_235⟩
set_option maxRecDepth 100000 in
theorem mo_236 : pi_okM (mn_236, prog_13_method_76_code, (11, 2, (some .int), false, mc_236)) 1 false := ⟨by decide +kernel, by decide +kernel, List.mem_of_getElem? (i := 1651) (by decide +kernel), List.mem_of_getElem? (i := 96) (by decide +kernel), (fun h => by cases h), (fun _ => List.mem_of_getElem? (i := 1649) (by decide +kernel)), (fun _ _ => List.mem_of_getElem? (i := 1650) (by decide +kernel)), by decide +kernel, by decide +kernel, by decide +kernel, (fun h => by cases h), md_236⟩
set_option maxRecDepth 100000 in
theorem mo_237 : pi_okM (mn_237, prog_13_method_77_code, (11, 2, none, false, mc_237)) 0 false := ⟨by decide +kernel, by decide +kernel, List.mem_of_getElem? (i := 1563) (by decide +kernel), List.mem_of_getElem? (i := 96) (by decide +kernel), (fun h => by cases h), (fun _ => List.mem_of_getElem? (i := 1562) (by decide +kernel)), (fun _ _ => List.mem_of_getElem? (i := 40) (by decide +kernel)), by decide +kernel, by decide +kernel, by decide +kernel, (fun h => by cases h), md_237⟩
set_option maxRecDepth 100000 in
theorem mo_238 : pi_okM (mn_238, prog_13_method_78_code, (11, 2, (some .int), false, mc_238)) 0 false := ⟨by decide +kernel, by decide +kernel, List.mem_of_getElem? (i := 1667) (by decide +kernel), List.mem_of_getElem? (i := 96) (by decide +kernel), (fun h => by cases h), (fun _ => List.mem_of_getElem? (i := 1665) (by decide +kernel)), (fun _ _ => List.mem_of_getElem? (i := 1666) (by decide +kernel)), by decide +kernel, by decide +kernel, by decide +kernel, (fun h => by cases h), md_238⟩
set_option maxRecDepth 100000 in
theorem mo_239 : pi_okM (mn_239, prog_13_method_79_code, (11, 2, none, false, mc_239)) 0 false := ⟨by decide +kernel, by decide +kernel, List.mem_of_getElem? (i := 1727) (by decide +kernel), List.mem_of_getElem? (i := 96) (by decide +kernel), (fun h => by cases h), (fun _ => List.mem_of_getElem? (i := 1726) (by decide +kernel)), (fun _ _ => List.mem_of_getElem? (i := 62) (by decide +kernel)), by decide +kernel, by decide +kernel, by decide +kernel, (fun h => by cases h), md_239⟩
set_option maxRecDepth 100000 in
theorem mo_240 : pi_okM (mn_240, prog_13_method_80_code, (11, 2, none, false, mc_240)) 0 false := ⟨by decide +kernel, by decide +kernel, List.mem_of_getElem? (i := 1735) (by decide +kernel), List.mem_of_getElem? (i := 96) (by decide +kernel), (fun h => by cases h), (fun _ => List.mem_of_getElem? (i := 1734) (by decide +kernel)), (fun _ _ => List.mem_of_getElem? (i := 64) (by decide +kernel)), by decide +kernel, by decide +kernel, by decide +kernel, (fun h => by cases h), md_240⟩
set_option maxRecDepth 100000 in
theorem mo_241 : pi_okM (mn_241, prog_13_method_81_code, (11, 3, (some .int), false, mc_241)) 2 false := ⟨by decide +kernel, by decide +kernel, List.mem_of_getElem? (i := 1671) (by decide +kernel), List.mem_of_getElem? (i := 96) (by decide +kernel), (fun h => by cases h), (fun _ => List.mem_of_getElem? (i := 1669) (by decide +kernel)), (fun _ _ => List.mem_of_getElem? (i := 1670) (by decide +kernel)), by decide +kernel, by decide +kernel, by decide +kernel, (fun h => by cases h), md_241⟩
set_option maxRecDepth 100000 in
theorem mo_242 : pi_okM (mn_242, prog_13_method_82_code, (11, 3, (some .int), false, mc_242)) 2 false := ⟨by decide +kernel, by decide +kernel, List.mem_of_getElem? (i := 1675) (by decide +kernel), List.mem_of_getElem? (i := 96) (by decide +kernel), (fun h => by cases h), (fun _ => List.mem_of_getElem? (i := 1673) (by decide +kernel)), (fun _ _ => List.mem_of_getElem? (i := 1674) (by decide +kernel)), by decide +kernel, by decide +kernel, by decide +kernel, (fun h => by cases h), md_242⟩
set_option maxRecDepth 100000 in
theorem mo_243 : pi_okM (mn_243, prog_13_method_83_code, (11, 2, (some .int), false, mc_243)) 1 false := ⟨by decide +kernel, by decide +kernel, List.mem_of_getElem? (i := 1679) (by decide +kernel), List.mem_of_getElem? (i := 96) (by decide +kernel), (fun h => by cases h), (fun _ => List.mem_of_getElem? (i := 1677) (by decide +kernel)), (fun _ _ => List.mem_of_getElem? (i := 1678) (by decide +kernel)), by decide +kernel, by decide +kernel, by decide +kernel, (fun h => by cases h), md_243⟩
set_option maxRecDepth 100000 in
theorem mo_244 : pi_okM (mn_244, prog_13_method_84_code, (11, 2, (some .int), false, mc_244)) 1 false := ⟨by decide +kernel, by decide +kernel, List.mem_of_getElem? (i := 1683) (by decide +kernel), List.mem_of_getElem? (i := 96) (by decide +kernel), (fun h => by cases h), (fun _ => List.mem_of_getElem? (i := 1681) (by decide +kernel)), (fun _ _ => List.mem_of_getElem? (i := 1682) (by decide +kernel)), by decide +kernel, by decide +kernel, by decide +kernel, (fun h => by cases h), md_244⟩
set_option maxRecDepth 100000 in
theorem mo_245 : pi_okM (mn_245, prog_13_method_85_code, (11, 4, (some .int), false, mc_245)) 1 false := ⟨by decide +kernel, by decide +kernel, List.mem_of_getElem? (i := 1687) (by decide +kernel), List.mem_of_getElem? (i := 96) (by decide +kernel), (fun h => by cases h), (fun _ => List.mem_of_getElem? (i := 1685) (by decide +kernel)), (fun _ _ => List.mem_of_getElem? (i := 1686) (by decide +kernel)), by decide +kernel, by decide +kernel, by decide +kernel, (fun h => by cases h), md_245⟩
set_option maxRecDepth 100000 in
theorem mo_246 : pi_okM (mn_246, prog_13_method_86_code, (11, 4, (some .int), false, mc_246)) 1 false := ⟨by decide +kernel, by decide +kernel, List.mem_of_getElem? (i := 1691) (by decide +kernel), List.mem_of_getElem? (i := 96) (by decide +kernel), (fun h => by cases h), (fun _ => List.mem_of_getElem? (i := 1689) (by decide +kernel)), (fun _ _ => List.mem_of_getElem? (i := 1690) (by decide +kernel)), by decide +kernel, by decide +kernel, by decide +kernel, (fun h => by cases h), md_246⟩
set_option maxRecDepth 100000 in
theorem mo_247 : pi_okM (mn_247, prog_13_method_87_code, (11, 3, (some .int), false, mc_247)) 2 false := ⟨by decide +kernel, by decide +kernel, List.mem_of_getElem? (i := 1695) (by decide +kernel), List.mem_of_getElem? (i := 96) (by decide +kernel), (fun h => by cases h), (fun _ => List.mem_of_getElem? (i := 1693) (by decide +kernel)), (fun _ _ => List.mem_of_getElem? (i := 1694) (by decide +kernel)), by decide +kernel, by decide +kernel, by decide +kernel, (fun h => by cases h), md_247⟩
set_option maxRecDepth 100000 in
theorem mo_248 : pi_okM (mn_248, prog_13_method_88_code, (11, 5, (some .int), false, mc_248)) 1 false := ⟨by decide +kernel, by decide +kernel, List.mem_of_getElem? (i := 1699) (by decide +kernel), List.mem_of_getElem? (i := 96) (by decide +kernel), (fun h => by cases h), (fun _ => List.mem_of_getElem? (i := 1697) (by decide +kernel)), (fun _ _ => List.mem_of_getElem? (i := 1698) (by decide +kernel)), by decide +kernel, by decide +kernel, by decide +kernel, (fun h => by cases h), md_248⟩
set_option maxRecDepth 100000 in
theorem mo_249 : pi_okM (mn_249, prog_13_method_89_code, (11, 3, (some .boolean), false, mc_249)) 2 false := ⟨by decide +kernel, by decide +kernel, List.mem_of_getElem? (i := 1711) (by decide +kernel), List.mem_of_getElem? (i := 96) (by decide +kernel), (fun h => by cases h), (fun _ => List.mem_of_getElem? (i := 1710) (by decide +kernel)), (fun _ _ => List.mem_of_getElem? (i := 61) (by decide +kernel)), by decide +kernel, by decide +kernel, by decide +kernel, (fun h => by cases h), md_249⟩
set_option maxRecDepth 100000 in
theorem mo_250 : pi_okM (mn_250, prog_13_method_90_code, (11, 8, (some .int), false, mc_250)) 3 false := ⟨by decide +kernel, by decide +kernel, List.mem_of_getElem? (i := 1707) (by decide +kernel), List.mem_of_getElem? (i := 96) (by decide +kernel), (fun h => by cases h), (fun _ => List.mem_of_getElem? (i := 1706) (by decide +kernel)), (fun _ _ => List.mem_of_getElem? (i := 60) (by decide +kernel)), by decide +kernel, by decide +kernel, by decide +kernel, (fun h => by cases h), md_250⟩
set_option maxRecDepth 100000 in
theorem mo_251 : pi_okM (mn_251, prog_13_method_91_code, (11, 6, (some .int), false, mc_251)) 3 false := ⟨by decide +kernel, by decide +kernel, List.mem_of_getElem? (i := 1703) (by decide +kernel), List.mem_of_getElem? (i := 96) (by decide +kernel), (fun h => by cases h), (fun _ => List.mem_of_getElem? (i := 1701) (by decide +kernel)), (fun _ _ => List.mem_of_getElem? (i := 1702) (by decide +kernel)), by decide +kernel, by decide +kernel, by decide +kernel, (fun h => by cases h), md_251⟩
set_option maxRecDepth 100000 in
theorem mo_252 : pi_okM (mn_252, prog_13_method_92_code, (11, 2, (some .int), false, mc_252)) 1 false := ⟨by decide +kernel, by decide +kernel, List.mem_of_getElem? (i := 1715) (by decide +kernel), List.mem_of_getElem? (i := 96) (by decide +kernel), (fun h => by cases h), (fun _ => List.mem_of_getElem? (i := 1713) (by decide +kernel)), (fun _ _ => List.mem_of_getElem? (i := 1714) (by decide +kernel)), by decide +kernel, by decide +kernel, by decide +kernel, (fun h => by cases h), md_252⟩
set_option maxRecDepth 100000 in
theorem mo_253 : pi_okM (mn_253, prog_13_method_93_code, (11, 6, (some .int), false, mc_253)) 2 false := ⟨by decide +kernel, by decide +kernel, List.mem_of_getElem? (i := 1719) (by decide +kernel), List.mem_of_getElem? (i := 96) (by decide +kernel), (fun h => by cases h), (fun _ => List.mem_of_getElem? (i := 1717) (by decide +kernel)), (fun _ _ => List.mem_of_getElem? (i := 1718) (by decide +kernel)), by decide +kernel, by decide +kernel, by decide +kernel, (fun h => by cases h), md_253⟩
set_option maxRecDepth 100000 in
theorem mo_254 : pi_okM (mn_254, prog_13_method_94_code, (11, 4, (some .boolean), false, mc_254)) 3 false := ⟨by decide +kernel, by decide +kernel, List.mem_of_getElem? (i := 1731) (by decide +kernel), List.mem_of_getElem? (i := 96) (by decide +kernel), (fun h => by cases h), (fun _ => List.mem_of_getElem? (i := 1730) (by decide +kernel)), (fun _ _ => List.mem_of_getElem? (i := 63) (by decide +kernel)), by decide +kernel, by decide +kernel, by decide +kernel, (fun h => by cases h), md_254⟩
set_option maxRecDepth 100000 in
theorem mo_255 : pi_okM (mn_255, prog_13_method_95_code, (11, 7, (some .int), false, mc_255)) 3 false := ⟨by decide +kernel, by decide +kernel, List.mem_of_getElem? (i := 1723) (by decide +kernel), List.mem_of_getElem? (i := 96) (by decide +kernel), (fun h => by cases h), (fun _ => List.mem_of_getElem? (i := 1721) (by decide +kernel)), (fun _ _ => List.mem_of_getElem? (i := 1722) (by decide +kernel)), by decide +kernel, by decide +kernel, by decide +kernel, (fun h => by cases h), md_255⟩
set_option maxRecDepth 100000 in
theorem mo_256 : pi_okM (mn_256, prog_13_method_96_code, (11, 4, (some .int), false, mc_256)) 1 false := ⟨by decide +kernel, by decide +kernel, List.mem_of_getElem? (i := 1743) (by decide +kernel), List.mem_of_getElem? (i := 96) (by decide +kernel), (fun h => by cases h), (fun _ => List.mem_of_getElem? (i := 1742) (by decide +kernel)), (fun _ _ => List.mem_of_getElem? (i := 65) (by decide +kernel)), by decide +kernel, by decide +kernel, by decide +kernel, (fun h => by cases h), md_256⟩
set_option maxRecDepth 100000 in
theorem mo_257 : pi_okM (mn_257, prog_13_method_97_code, (11, 7, (some .int), false, mc_257)) 2 false := ⟨by decide +kernel, by decide +kernel, List.mem_of_getElem? (i := 1739) (by decide +kernel), List.mem_of_getElem? (i := 96) (by decide +kernel), (fun h => by cases h), (fun _ => List.mem_of_getElem? (i := 1737) (by decide +kernel)), (fun _ _ => List.mem_of_getElem? (i := 1738) (by decide +kernel)), by decide +kernel, by decide +kernel, by decide +kernel, (fun h => by cases h), md_257⟩
set_option maxRecDepth 100000 in
theorem mo_258 : pi_okM (mn_258, prog_13_method_98_code, (11, 1, (some .int), false, mc_258)) 0 false := ⟨by decide +kernel, by decide +kernel, List.mem_of_getElem? (i := 1747) (by decide +kernel), List.mem_of_getElem? (i := 96) (by decide +kernel), (fun h => by cases h), (fun _ => List.mem_of_getElem? (i := 1745) (by decide +kernel)), (fun _ _ => List.mem_of_getElem? (i := 1746) (by decide +kernel)), by decide +kernel, by decide +kernel, by decide +kernel, (fun h => by cases h), md_258⟩
set_option maxRecDepth 100000 in
theorem mo_259 : pi_okM (mn_259, prog_13_method_99_code, (11, 7, (some .int), false, mc_259)) 1 false := ⟨by decide +kernel, by decide +kernel, List.mem_of_getElem? (i := 1751) (by decide +kernel), List.mem_of_getElem? (i := 96) (by decide +kernel), (fun h => by cases h), (fun _ => List.mem_of_getElem? (i := 1749) (by decide +kernel)), (fun _ _ => List.mem_of_getElem? (i := 1750) (by decide +kernel)), by decide +kernel, by decide +kernel, by decide +kernel, (fun h => by cases h), md_259⟩
set_option maxRecDepth 100000 in
theorem mo_260 : pi_okM (mn_260, prog_13_method_100_code, (11, 1, (some .int), false, mc_260)) 0 false := ⟨by decide +kernel, by decide +kernel, List.mem_of_getElem? (i := 1755) (by decide +kernel), List.mem_of_getElem? (i := 96) (by decide +kernel), (fun h => by cases h), (fun _ => List.mem_of_getElem? (i := 1753) (by decide +kernel)), (fun _ _ => List.mem_of_getElem? (i := 1754) (by decide +kernel)), by decide +kernel, by decide +kernel, by decide +kernel, (fun h => by cases h), md_260⟩
set_option maxRecDepth 100000 in
theorem mo_261 : pi_okM (mn_261, prog_13_method_101_code, (11, 6, (some .int), false, mc_261)) 3 false := ⟨by decide +kernel, by decide +kernel, List.mem_of_getElem? (i := 1759) (by decide +kernel), List.mem_of_getElem? (i := 96) (by decide +kernel), (fun h => by cases h), (fun _ => List.mem_of_getElem? (i := 1757) (by decide +kernel)), (fun _ _ => List.mem_of_getElem? (i := 1758) (by decide +kernel)), by decide +kernel, by decide +kernel, by decide +kernel, (fun h => by cases h), md_261⟩
set_option maxRecDepth 100000 in
theorem mo_262 : pi_okM (mn_262, prog_13_method_102_code, (11, 2, (some .int), false, mc_262)) 1 false := ⟨by decide +kernel, by decide +kernel, List.mem_of_getElem? (i := 1771) (by decide +kernel), List.mem_of_getElem? (i := 96) (by decide +kernel), (fun h => by cases h), (fun _ => List.mem_of_getElem? (i := 1770) (by decide +kernel)), (fun _ _ => List.mem_of_getElem? (i := 67) (by decide +kernel)), by decide +kernel, by decide +kernel, by decide +kernel, (fun h => by cases h), md_262⟩
set_option maxRecDepth 100000 in
theorem mo_263 : pi_okM (mn_263, prog_13_method_103_code, (11, 6, (some .int), false, mc_263)) 2 false := ⟨by decide +kernel, by decide +kernel, List.mem_of_getElem? (i := 1767) (by decide +kernel), List.mem_of_getElem? (i := 96) (by decide +kernel), (fun h => by cases h), (fun _ => List.mem_of_getElem? (i := 1766) (by decide +kernel)), (fun _ _ => List.mem_of_getElem? (i := 66) (by decide +kernel)), by decide +kernel, by decide +kernel, by decide +kernel, (fun h => by cases h), md_263⟩
set_option maxRecDepth 100000 in
theorem mo_264 : pi_okM (mn_264, prog_13_method_104_code, (11, 3, (some .int), false, mc_264)) 2 false := ⟨by decide +kernel, by decide +kernel, List.mem_of_getElem? (i := 1763) (by decide +kernel), List.mem_of_getElem? (i := 96) (by decide +kernel), (fun h => by cases h), (fun _ => List.mem_of_getElem? (i := 1761) (by decide +kernel)), (fun _ _ => List.mem_of_getElem? (i := 1762) (by decide +kernel)), by decide +kernel, by decide +kernel, by decide +kernel, (fun h => by cases h), md_264⟩
set_option maxRecDepth 100000 in
theorem mo_265 : pi_okM (mn_265, prog_13_method_105_code, (11, 6, (some .int), false, mc_265)) 3 false := ⟨by decide +kernel, by decide +kernel, List.mem_of_getElem? (i := 1776) (by decide +kernel), List.mem_of_getElem? (i := 96) (by decide +kernel), (fun h => by cases h), (fun _ => List.mem_of_getElem? (i := 1774) (by decide +kernel)), (fun _ _ => List.mem_of_getElem? (i := 1775) (by decide +kernel)), by decide +kernel, by decide +kernel, by decide +kernel, (fun h => by cases h), md_265⟩
set_option maxRecDepth 100000 in
theorem mo_266 : pi_okM (mn_266, prog_13_method_106_code, (11, 4, (some .boolean), false, mc_266)) 0 false := ⟨by decide +kernel, by decide +kernel, List.mem_of_getElem? (i := 1784) (by decide +kernel), List.mem_of_getElem? (i := 96) (by decide +kernel), (fun h => by cases h), (fun _ => List.mem_of_getElem? (i := 1783) (by decide +kernel)), (fun _ _ => List.mem_of_getElem? (i := 68) (by decide +kernel)), by decide +kernel, by decide +kernel, by decide +kernel, (fun h => by cases h), md_266⟩
set_option maxRecDepth 100000 in
theorem mo_267 : pi_okM (mn_267, prog_13_method_107_code, (11, 4, (some .boolean), false, mc_267)) 3 false := ⟨by decide +kernel, by decide +kernel, List.mem_of_getElem? (i := 1788) (by decide +kernel), List.mem_of_getElem? (i := 96) (by decide +kernel), (fun h => by cases h), (fun _ => List.mem_of_getElem? (i := 1787) (by decide +kernel)), (fun _ _ => List.mem_of_getElem? (i := 69) (by decide +kernel)), by decide +kernel, by decide +kernel, by decide +kernel, (fun h => by cases h), md_267⟩
set_option maxRecDepth 100000 in
theorem mo_268 : pi_okM (mn_268, prog_13_method_108_code, (11, 4, (some .int), false, mc_268)) 3 false := ⟨by decide +kernel, by decide +kernel, List.mem_of_getElem? (i := 1792) (by decide +kernel), List.mem_of_getElem? (i := 96) (by decide +kernel), (fun h => by cases h), (fun _ => List.mem_of_getElem? (i := 1791) (by decide +kernel)), (fun _ _ => List.mem_of_getElem? (i := 70) (by decide +kernel)), by decide +kernel, by decide +kernel, by decide +kernel, (fun h => by cases h), md_268⟩
set_option maxRecDepth 100000 in
theorem mo_269 : pi_okM (mn_269, prog_13_method_109_code, (11, 4, none, false, mc_269)) 3 false := ⟨by decide +kernel, by decide +kernel, List.mem_of_getElem? (i := 1796) (by decide +kernel), List.mem_of_getElem? (i := 96) (by decide +kernel), (fun h => by cases h), (fun _ => List.mem_of_getElem? (i := 1795) (by decide +kernel)), (fun _ _ => List.mem_of_getElem? (i := 71) (by decide +kernel)), by decide +kernel, by decide +kernel, by decide +kernel, (fun h => by cases h), md_269⟩
set_option maxRecDepth 100000 in
theorem mo_270 : pi_okM (mn_270, prog_13_method_110_code, (11, 6, (some .int), false, mc_270)) 1 false := ⟨by decide +kernel, by decide +kernel, List.mem_of_getElem? (i := 1780) (by decide +kernel), List.mem_of_getElem? (i := 96) (by decide +kernel), (fun h => by cases h), (fun _ => List.mem_of_getElem? (i := 1778) (by decide +kernel)), (fun _ _ => List.mem_of_getElem? (i := 1779) (by decide +kernel)), by decide +kernel, by decide +kernel, by decide +kernel, (fun h => by cases h), md_270⟩
set_option maxRecDepth 100000 in
theorem mo_271 : pi_okM (mn_271, prog_13_method_111_code, (11, 2, (some .int), false, mc_271)) 1 false := ⟨by decide +kernel, by decide +kernel, List.mem_of_getElem? (i := 1800) (by decide +kernel), List.mem_of_getElem? (i := 96) (by decide +kernel), (fun h => by cases h), (fun _ => List.mem_of_getElem? (i := 1798) (by decide +kernel)), (fun _ _ => List.mem_of_getElem? (i := 1799) (by decide +kernel)), by decide +kernel, by decide +kernel, by decide +kernel, (fun h => by cases h), md_271⟩
set_option maxRecDepth 100000 in
theorem mo_272 : pi_okM (mn_272, prog_13_method_112_code, (11, 4, none, false, mc_272)) 3 false := ⟨by decide +kernel, by decide +kernel, List.mem_of_getElem? (i := 1812) (by decide +kernel), List.mem_of_getElem? (i := 96) (by decide +kernel), (fun h => by cases h), (fun _ => List.mem_of_getElem? (i := 1811) (by decide +kernel)), (fun _ _ => List.mem_of_getElem? (i := 73) (by decide +kernel)), by decide +kernel, by decide +kernel, by decide +kernel, (fun h => by cases h), md_272⟩
set_option maxRecDepth 100000 in
theorem mo_273 : pi_okM (mn_273, prog_13_method_113_code, (11, 2, none, false, mc_273)) 1 false := ⟨by decide +kernel, by decide +kernel, List.mem_of_getElem? (i := 1816) (by decide +kernel), List.mem_of_getElem? (i := 96) (by decide +kernel), (fun h => by cases h), (fun _ => List.mem_of_getElem? (i := 1815) (by decide +kernel)), (fun _ _ => List.mem_of_getElem? (i := 74) (by decide +kernel)), by decide +kernel, by decide +kernel, by decide +kernel, (fun h => by cases h), md_273⟩
set_option maxRecDepth 100000 in
theorem mo_274 : pi_okM (mn_274, prog_13_method_114_code, (11, 1, none, false, mc_274)) 0 false := ⟨by decide +kernel, by decide +kernel, List.mem_of_getElem? (i := 1808) (by decide +kernel), List.mem_of_getElem? (i := 96) (by decide +kernel), (fun h => by cases h), (fun _ => List.mem_of_getElem? (i := 1807) (by decide +kernel)), (fun _ _ => List.mem_of_getElem? (i := 72) (by decide +kernel)), by decide +kernel, by decide +kernel, by decide +kernel, (fun h => by cases h), md_274⟩
set_option maxRecDepth 100000 in
theorem mo_275 : pi_okM (mn_275, prog_13_method_115_code, (11, 1, (some .int), false, mc_275)) 0 false := ⟨by decide +kernel, by decide +kernel, List.mem_of_getElem? (i := 1828) (by decide +kernel), List.mem_of_getElem? (i := 96) (by decide +kernel), (fun h => by cases h), (fun _ => List.mem_of_getElem? (i := 1827) (by decide +kernel)), (fun _ _ => List.mem_of_getElem? (i := 77) (by decide +kernel)), by decide +kernel, by decide +kernel, by decide +kernel, (fun h => by cases h), md_275⟩
set_option maxRecDepth 100000 in
theorem mo_276 : pi_okM (mn_276, prog_13_method_116_code, (11, 5, (some .boolean), false, mc_276)) 0 false := ⟨by decide +kernel, by decide +kernel, List.mem_of_getElem? (i := 1824) (by decide +kernel), List.mem_of_getElem? (i := 96) (by decide +kernel), (fun h => by cases h), (fun _ => List.mem_of_getElem? (i := 1823) (by decide +kernel)), (fun _ _ => List.mem_of_getElem? (i := 76) (by decide +kernel)), by decide +kernel, by decide +kernel, by decide +kernel, (fun h => by cases h), md_276⟩
set_option maxRecDepth 100000 in
theorem mo_277 : pi_okM (mn_277, prog_13_method_117_code, (11, 1, (some .boolean), false, mc_277)) 0 false := ⟨by decide +kernel, by decide +kernel, List.mem_of_getElem? (i := 1820) (by decide +kernel), List.mem_of_getElem? (i := 96) (by decide +kernel), (fun h => by cases h), (fun _ => List.mem_of_getElem? (i := 1819) (by decide +kernel)), (fun _ _ => List.mem_of_getElem? (i := 75) (by decide +kernel)), by decide +kernel, by decide +kernel, by decide +kernel, (fun h => by cases h), md_277⟩
set_option maxRecDepth 100000 in
theorem mo_278 : pi_okM (mn_278, prog_13_method_118_code, (11, 3, (some .int), false, mc_278)) 0 false := ⟨by decide +kernel, by decide +kernel, List.mem_of_getElem? (i := 1804) (by decide +kernel), List.mem_of_getElem? (i := 96) (by decide +kernel), (fun h => by cases h), (fun _ => List.mem_of_getElem? (i := 1802) (by decide +kernel)), (fun _ _ => List.mem_of_getElem? (i := 1803) (by decide +kernel)), by decide +kernel, by decide +kernel, by decide +kernel, (fun h => by cases h), md_278⟩
set_option maxRecDepth 100000 in
theorem mo_279 : pi_okM (mn_279, prog_13_method_119_code, (11, 6, (some .boolean), false, mc_279)) 4 false := ⟨by decide +kernel, by decide +kernel, List.mem_of_getElem? (i := 1840) (by decide +kernel), List.mem_of_getElem? (i := 96) (by decide +kernel), (fun h => by cases h), (fun _ => List.mem_of_getElem? (i := 1839) (by decide +kernel)), (fun _ _ => List.mem_of_getElem? (i := 79) (by decide +kernel)), by decide +kernel, by decide +kernel, by decide +kernel, (fun h => by cases h), md_279⟩
set_option maxRecDepth 100000 in
theorem mo_280 : pi_okM (mn_280, prog_13_method_120_code, (11, 5, (some .boolean), false, mc_280)) 1 false := ⟨by decide +kernel, by decide +kernel, List.mem_of_getElem? (i := 1836) (by decide +kernel), List.mem_of_getElem? (i := 96) (by decide +kernel), (fun h => by cases h), (fun _ => List.mem_of_getElem? (i := 1835) (by decide +kernel)), (fun _ _ => List.mem_of_getElem? (i := 78) (by decide +kernel)), by decide +kernel, by decide +kernel, by decide +kernel, (fun h => by cases h), md_280⟩
set_option maxRecDepth 100000 in
theorem mo_281 : pi_okM (mn_281, prog_13_method_121_code, (11, 4, (some .int), false, mc_281)) 1 false := ⟨by decide +kernel, by decide +kernel, List.mem_of_getElem? (i := 1832) (by decide +kernel), List.mem_of_getElem? (i := 96) (by decide +kernel), (fun h => by cases h), (fun _ => List.mem_of_getElem? (i := 1830) (by decide +kernel)), (fun _ _ => List.mem_of_getElem? (i := 1831) (by decide +kernel)), by decide +kernel, by decide +kernel, by decide +kernel, (fun h => by cases h), md_281⟩
set_option maxRecDepth 100000 in
theorem mo_282 : pi_okM (mn_282, prog_13_method_122_code, (11, 3, (some .boolean), false, mc_282)) 1 false := ⟨by decide +kernel, by decide +kernel, List.mem_of_getElem? (i := 1844) (by decide +kernel), List.mem_of_getElem? (i := 96) (by decide +kernel), (fun h => by cases h), (fun _ => List.mem_of_getElem? (i := 1842) (by decide +kernel)), (fun _ _ => List.mem_of_getElem? (i := 1843) (by decide +kernel)), by decide +kernel, by decide +kernel, by decide +kernel, (fun h => by cases h), md_282⟩
set_option maxRecDepth 100000 in
theorem mo_283 : pi_okM (mn_283, prog_13_method_123_code, (11, 3, (some .boolean), false, mc_283)) 1 false := ⟨by decide +kernel, by decide +kernel, List.mem_of_getElem? (i := 1848) (by decide +kernel), List.mem_of_getElem? (i := 96) (by decide +kernel), (fun h => by cases h), (fun _ => List.mem_of_getElem? (i := 1846) (by decide +kernel)), (fun _ _ => List.mem_of_getElem? (i := 1847) (by decide +kernel)), by decide +kernel, by decide +kernel, by decide +kernel, (fun h => by cases h), md_283⟩
set_option maxRecDepth 100000 in
theorem mo_284 : pi_okM (mn_284, prog_13_method_124_code, (11, 2, (some .int), false, mc_284)) 1 false := ⟨by decide +kernel, by decide +kernel, List.mem_of_getElem? (i := 1852) (by decide +kernel), List.mem_of_getElem? (i := 96) (by decide +kernel), (fun h => by cases h), (fun _ => List.mem_of_getElem? (i := 1850) (by decide +kernel)), (fun _ _ => List.mem_of_getElem? (i := 1851) (by decide +kernel)), by decide +kernel, by decide +kernel, by decide +kernel, (fun h => by cases h), md_284⟩
set_option maxRecDepth 100000 in
theorem mo_285 : pi_okM (mn_285, prog_18_method_49_code, (12, 1, (some .int), false, mc_285)) 1 true := ⟨by decide +kernel, by decide +kernel, List.mem_of_getElem? (i := 707) (by decide +kernel), List.mem_of_getElem? (i := 103) (by decide +kernel), (fun _ => List.mem_of_getElem? (i := 706) (by decide +kernel)), (fun h => by cases h), (fun h => by cases h), by decide +kernel, by decide +kernel, by decide +kernel, (fun h => by cases h), md_285⟩
theorem mo_all_0 : ∀ q ∈ pi_mt_0.zip pi_mk_0, pi_okM q.1 q.2.1 q.2.2 := List.forall_mem_cons.mpr ⟨mo_0, List.forall_mem_cons.mpr ⟨mo_1, List.forall_mem_cons.mpr ⟨mo_2, List.forall_mem_cons.mpr ⟨mo_3, List.forall_mem_cons.mpr ⟨mo_4, List.forall_mem_cons.mpr ⟨mo_5, List.forall_mem_cons.mpr ⟨mo_6, List.forall_mem_cons.mpr ⟨mo_7, List.forall_mem_cons.mpr ⟨mo_8, List.forall_mem_cons.mpr ⟨mo_9, List.forall_mem_cons.mpr ⟨mo_10, List.forall_mem_cons.mpr ⟨mo_11, List.forall_mem_cons.mpr ⟨mo_12, List.forall_mem_cons.mpr ⟨mo_13, List.forall_mem_cons.mpr ⟨mo_14, List.forall_mem_cons.mpr ⟨mo_15, List.forall_mem_cons.mpr ⟨mo_16, List.forall_mem_cons.mpr ⟨mo_17, List.forall_mem_cons.mpr ⟨mo_18, List.forall_mem_cons.mpr ⟨mo_19, List.forall_mem_cons.mpr ⟨mo_20, List.forall_mem_cons.mpr ⟨mo_21, List.forall_mem_cons.mpr ⟨mo_22, List.forall_mem_cons.mpr ⟨mo_23, List.forall_mem_cons.mpr ⟨mo_24, List.forall_mem_cons.mpr ⟨mo_25, List.forall_mem_cons.mpr ⟨mo_26, List.forall_mem_cons.mpr ⟨mo_27, List.forall_mem_cons.mpr ⟨mo_28, List.forall_mem_cons.mpr ⟨mo_29, List.forall_mem_cons.mpr ⟨mo_30, List.forall_mem_cons.mpr ⟨mo_31, List.forall_mem_cons.mpr ⟨mo_32, List.forall_mem_cons.mpr ⟨mo_33, List.forall_mem_cons.mpr ⟨mo_34, List.forall_mem_cons.mpr ⟨mo_35, List.forall_mem_cons.mpr ⟨mo_36, List.forall_mem_cons.mpr ⟨mo_37, List.forall_mem_cons.mpr ⟨mo_38, List.forall_mem_cons.mpr ⟨mo_39, List.forall_mem_cons.mpr ⟨mo_40, List.forall_mem_cons.mpr ⟨mo_41, List.forall_mem_cons.mpr ⟨mo_42, List.forall_mem_cons.mpr ⟨mo_43, List.forall_mem_cons.mpr ⟨mo_44, List.forall_mem_cons.mpr ⟨mo_45, List.forall_mem_cons.mpr ⟨mo_46, List.forall_mem_cons.mpr ⟨mo_47, fun _ h => absurd h List.not_mem_nil⟩⟩⟩⟩⟩⟩⟩⟩⟩⟩⟩⟩⟩⟩⟩⟩⟩⟩⟩⟩⟩⟩⟩⟩⟩⟩⟩⟩⟩⟩⟩⟩⟩⟩⟩⟩⟩⟩⟩⟩⟩⟩⟩⟩⟩⟩⟩⟩
theorem mo_all_1 : ∀ q ∈ pi_mt_1.zip pi_mk_1, pi_okM q.1 q.2.1 q.2.2 := List.forall_mem_cons.mpr ⟨mo_48, List.forall_mem_cons.mpr ⟨mo_49, List.forall_mem_cons.mpr ⟨mo_50, List.forall_mem_cons.mpr ⟨mo_51, List.forall_mem_cons.mpr ⟨mo_52, List.forall_mem_cons.mpr ⟨mo_53, List.forall_mem_cons.mpr ⟨mo_54, List.forall_mem_cons.mpr ⟨mo_55, List.forall_mem_cons.mpr ⟨mo_56, List.forall_mem_cons.mpr ⟨mo_57, List.forall_mem_cons.mpr ⟨mo_58, List.forall_mem_cons.mpr ⟨mo_59, List.forall_mem_cons.mpr ⟨mo_60, List.forall_mem_cons.mpr ⟨mo_61, List.forall_mem_cons.mpr ⟨mo_62, List.forall_mem_cons.mpr ⟨mo_63, List.forall_mem_cons.mpr ⟨mo_64, List.forall_mem_cons.mpr ⟨mo_65, List.forall_mem_cons.mpr ⟨mo_66, List.forall_mem_cons.mpr ⟨mo_67, List.forall_mem_cons.mpr ⟨mo_68, List.forall_mem_cons.mpr ⟨mo_69, List.forall_mem_cons.mpr ⟨mo_70, List.forall_mem_cons.mpr ⟨mo_71, List.forall_mem_cons.mpr ⟨mo_72, List.forall_mem_cons.mpr ⟨mo_73, List.forall_mem_cons.mpr ⟨mo_74, List.forall_mem_cons.mpr ⟨mo_75, List.forall_mem_cons.mpr ⟨mo_76, List.forall_mem_cons.mpr ⟨mo_77, List.forall_mem_cons.mpr ⟨mo_78, List.forall_mem_cons.mpr ⟨mo_79, List.forall_mem_cons.mpr ⟨mo_80, List.forall_mem_cons.mpr ⟨mo_81, List.forall_mem_cons.mpr ⟨mo_82, List.forall_mem_cons.mpr ⟨mo_83, List.forall_mem_cons.mpr ⟨mo_84, List.forall_mem_cons.mpr ⟨mo_85, List.forall_mem_cons.mpr ⟨mo_86, List.forall_mem_cons.mpr ⟨mo_87, List.forall_mem_cons.mpr ⟨mo_88, List.forall_mem_cons.mpr ⟨mo_89, List.forall_mem_cons.mpr ⟨mo_90, List.forall_mem_cons.mpr ⟨mo_91, List.forall_mem_cons.mpr ⟨mo_92, List.forall_mem_cons.mpr ⟨mo_93, List.forall_mem_cons.mpr ⟨mo_94, List.forall_mem_cons.mpr ⟨mo_95, fun _ h => absurd h List.not_mem_nil⟩⟩⟩⟩⟩⟩⟩⟩⟩⟩⟩⟩⟩⟩⟩⟩⟩⟩⟩⟩⟩⟩⟩⟩⟩⟩⟩⟩⟩⟩⟩⟩⟩⟩⟩⟩⟩⟩⟩⟩⟩⟩⟩⟩⟩⟩⟩⟩
theorem mo_all_2 : ∀ q ∈ pi_mt_2.zip pi_mk_2, pi_okM q.1 q.2.1 q.2.2 := List.forall_mem_cons.mpr ⟨mo_96, List.forall_mem_cons.mpr ⟨mo_97, List.forall_mem_cons.mpr ⟨mo_98, List.forall_mem_cons.mpr ⟨mo_99, List.forall_mem_cons.mpr ⟨mo_100, List.forall_mem_cons.mpr ⟨mo_101, List.forall_mem_cons.mpr ⟨mo_102, List.forall_mem_cons.mpr ⟨mo_103, List.forall_mem_cons.mpr ⟨mo_104, List.forall_mem_cons.mpr ⟨mo_105, List.forall_mem_cons.mpr ⟨mo_106, List.forall_mem_cons.mpr ⟨mo_107, List.forall_mem_cons.mpr ⟨mo_108, List.forall_mem_cons.mpr ⟨mo_109, List.forall_mem_cons.mpr ⟨mo_110, List.forall_mem_cons.mpr ⟨mo_111, List.forall_mem_cons.mpr ⟨mo_112, List.forall_mem_cons.mpr ⟨mo_113, List.forall_mem_cons.mpr ⟨mo_114, List.forall_mem_cons.mpr ⟨mo_115, List.forall_mem_cons.mpr ⟨mo_116, List.forall_mem_cons.mpr ⟨mo_117, List.forall_mem_cons.mpr ⟨mo_118, List.forall_mem_cons.mpr ⟨mo_119, List.forall_mem_cons.mpr ⟨mo_120, List.forall_mem_cons.mpr ⟨mo_121, List.forall_mem_cons.mpr ⟨mo_122, List.forall_mem_cons.mpr ⟨mo_123, List.forall_mem_cons.mpr ⟨mo_124, List.forall_mem_cons.mpr ⟨mo_125, List.forall_mem_cons.mpr ⟨mo_126, List.forall_mem_cons.mpr ⟨mo_127, List.forall_mem_cons.mpr ⟨mo_128, List.forall_mem_cons.mpr ⟨mo_129, List.forall_mem_cons.mpr ⟨mo_130, List.forall_mem_cons.mpr ⟨mo_131, List.forall_mem_cons.mpr ⟨mo_132, List.forall_mem_cons.mpr ⟨mo_133, List.forall_mem_cons.mpr ⟨mo_134, List.forall_mem_cons.mpr ⟨mo_135, List.forall_mem_cons.mpr ⟨mo_136, List.forall_mem_cons.mpr ⟨mo_137, List.forall_mem_cons.mpr ⟨mo_138, List.forall_mem_cons.mpr ⟨mo_139, List.forall_mem_cons.mpr ⟨mo_140, List.forall_mem_cons.mpr ⟨mo_141, List.forall_mem_cons.mpr ⟨mo_142, List.forall_mem_cons.mpr ⟨mo_143, fun _ h => absurd h List.not_mem_nil⟩⟩⟩⟩⟩⟩⟩⟩⟩⟩⟩⟩⟩⟩⟩⟩⟩⟩⟩⟩⟩⟩⟩⟩⟩⟩⟩⟩⟩⟩⟩⟩⟩⟩⟩⟩⟩⟩⟩⟩⟩⟩⟩⟩⟩⟩⟩⟩
theorem mo_all_3 : ∀ q ∈ pi_mt_3.zip pi_mk_3, pi_okM q.1 q.2.1 q.2.2 := List.forall_mem_cons.mpr ⟨mo_144, List.forall_mem_cons.mpr ⟨mo_145, List.forall_mem_cons.mpr ⟨mo_146, List.forall_mem_cons.mpr ⟨mo_147, List.forall_mem_cons.mpr ⟨mo_148, List.forall_mem_cons.mpr ⟨mo_149, List.forall_mem_cons.mpr ⟨mo_150, List.forall_mem_cons.mpr ⟨mo_151, List.forall_mem_cons.mpr ⟨mo_152, List.forall_mem_cons.mpr ⟨mo_153, List.forall_mem_cons.mpr ⟨mo_154, List.forall_mem_cons.mpr ⟨mo_155, List.forall_mem_cons.mpr ⟨mo_156, List.forall_mem_cons.mpr ⟨mo_157, List.forall_mem_cons.mpr ⟨mo_158, List.forall_mem_cons.mpr ⟨mo_159, List.forall_mem_cons.mpr ⟨mo_160, List.forall_mem_cons.mpr ⟨mo_161, List.forall_mem_cons.mpr ⟨mo_162, List.forall_mem_cons.mpr ⟨mo_163, List.forall_mem_cons.mpr ⟨mo_164, List.forall_mem_cons.mpr ⟨mo_165, List.forall_mem_cons.mpr ⟨mo_166, List.forall_mem_cons.mpr ⟨mo_167, List.forall_mem_cons.mpr ⟨mo_168, List.forall_mem_cons.mpr ⟨mo_169, List.forall_mem_cons.mpr ⟨mo_170, List.forall_mem_cons.mpr ⟨mo_171, List.forall_mem_cons.mpr ⟨mo_172, List.forall_mem_cons.mpr ⟨mo_173, List.forall_mem_cons.mpr ⟨mo_174, List.forall_mem_cons.mpr ⟨mo_175, List.forall_mem_cons.mpr ⟨mo_176, List.forall_mem_cons.mpr ⟨mo_177, List.forall_mem_cons.mpr ⟨mo_178, List.forall_mem_cons.mpr ⟨mo_179, List.forall_mem_cons.mpr ⟨mo_180, List.forall_mem_cons.mpr ⟨mo_181, List.forall_mem_cons.mpr ⟨mo_182, List.forall_mem_cons.mpr ⟨mo_183, List.forall_mem_cons.mpr ⟨mo_184, List.forall_mem_cons.mpr ⟨mo_185, List.forall_mem_cons.mpr ⟨mo_186, List.forall_mem_cons.mpr ⟨mo_187, List.forall_mem_cons.mpr ⟨mo_188, List.forall_mem_cons.mpr ⟨mo_189, List.forall_mem_cons.mpr ⟨mo_190, List.forall_mem_cons.mpr ⟨mo_191, fun _ h => absurd h List.not_mem_nil⟩⟩⟩⟩⟩⟩⟩⟩⟩⟩⟩⟩⟩⟩⟩⟩⟩⟩⟩⟩⟩⟩⟩⟩⟩⟩⟩⟩⟩⟩⟩⟩⟩⟩⟩⟩⟩⟩⟩⟩⟩⟩⟩⟩⟩⟩⟩⟩
theorem mo_all_4 : ∀ q ∈ pi_mt_4.zip pi_mk_4, pi_okM q.1 q.2.1 q.2.2 := List.forall_mem_cons.mpr ⟨mo_192, List.forall_mem_cons.mpr ⟨mo_193, List.forall_mem_cons.mpr ⟨mo_194, List.forall_mem_cons.mpr ⟨mo_195, List.forall_mem_cons.mpr ⟨mo_196, List.forall_mem_cons.mpr ⟨mo_197, List.forall_mem_cons.mpr ⟨mo_198, List.forall_mem_cons.mpr ⟨mo_199, List.forall_mem_cons.mpr ⟨mo_200, List.forall_mem_cons.mpr ⟨mo_201, List.forall_mem_cons.mpr ⟨mo_202, List.forall_mem_cons.mpr ⟨mo_203, List.forall_mem_cons.mpr ⟨mo_204, List.forall_mem_cons.mpr ⟨mo_205, List.forall_mem_cons.mpr ⟨mo_206, List.forall_mem_cons.mpr ⟨mo_207, List.forall_mem_cons.mpr ⟨mo_208, List.forall_mem_cons.mpr ⟨mo_209, List.forall_mem_cons.mpr ⟨mo_210, List.forall_mem_cons.mpr ⟨mo_211, List.forall_mem_cons.mpr ⟨mo_212, List.forall_mem_cons.mpr ⟨mo_213, List.forall_mem_cons.mpr ⟨mo_214, List.forall_mem_cons.mpr ⟨mo_215, List.forall_mem_cons.mpr ⟨mo_216, List.forall_mem_cons.mpr ⟨mo_217, List.forall_mem_cons.mpr ⟨mo_218, List.forall_mem_cons.mpr ⟨mo_219, List.forall_mem_cons.mpr ⟨mo_220, List.forall_mem_cons.mpr ⟨mo_221, List.forall_mem_cons.mpr ⟨mo_222, List.forall_mem_cons.mpr ⟨mo_223, List.forall_mem_cons.mpr ⟨mo_224, List.forall_mem_cons.mpr ⟨mo_225, List.forall_mem_cons.mpr ⟨mo_226, List.forall_mem_cons.mpr ⟨mo_227, List.forall_mem_cons.mpr ⟨mo_228, List.forall_mem_cons.mpr ⟨mo_229, List.forall_mem_cons.mpr ⟨mo_230, List.forall_mem_cons.mpr ⟨mo_231, List.forall_mem_cons.mpr ⟨mo_232, List.forall_mem_cons.mpr ⟨mo_233, List.forall_mem_cons.mpr ⟨mo_234, List.forall_mem_cons.mpr ⟨mo_235, List.forall_mem_cons.mpr ⟨mo_236, List.forall_mem_cons.mpr ⟨mo_237, List.forall_mem_cons.mpr ⟨mo_238, List.forall_mem_cons.mpr ⟨mo_239, fun _ h => absurd h List.not_mem_nil⟩⟩⟩⟩⟩⟩⟩⟩⟩⟩⟩⟩⟩⟩⟩⟩⟩⟩⟩⟩⟩⟩⟩⟩⟩⟩⟩⟩⟩⟩⟩⟩⟩⟩⟩⟩⟩⟩⟩⟩⟩⟩⟩⟩⟩⟩⟩⟩
theorem mo_all_5 : ∀ q ∈ pi_mt_5.zip pi_mk_5, pi_okM q.1 q.2.1 q.2.2 := List.forall_mem_cons.mpr ⟨mo_240, List.forall_mem_cons.mpr ⟨mo_241, List.forall_mem_cons.mpr ⟨mo_242, List.forall_mem_cons.mpr ⟨mo_243, List.forall_mem_cons.mpr ⟨mo_244, List.forall_mem_cons.mpr ⟨mo_245, List.forall_mem_cons.mpr ⟨mo_246, List.forall_mem_cons.mpr ⟨mo_247, List.forall_mem_cons.mpr ⟨mo_248, List.forall_mem_cons.mpr ⟨mo_249, List.forall_mem_cons.mpr ⟨mo_250, List.forall_mem_cons.mpr ⟨mo_251, List.forall_mem_cons.mpr ⟨mo_252, List.forall_mem_cons.mpr ⟨mo_253, List.forall_mem_cons.mpr ⟨mo_254, List.forall_mem_cons.mpr ⟨mo_255, List.forall_mem_cons.mpr ⟨mo_256, List.forall_mem_cons.mpr ⟨mo_257, List.forall_mem_cons.mpr ⟨mo_258, List.forall_mem_cons.mpr ⟨mo_259, List.forall_mem_cons.mpr ⟨mo_260, List.forall_mem_cons.mpr ⟨mo_261, List.forall_mem_cons.mpr ⟨mo_262, List.forall_mem_cons.mpr ⟨mo_263, List.forall_mem_cons.mpr ⟨mo_264, List.forall_mem_cons.mpr ⟨mo_265, List.forall_mem_cons.mpr ⟨mo_266, List.forall_mem_cons.mpr ⟨mo_267, List.forall_mem_cons.mpr ⟨mo_268, List.forall_mem_cons.mpr ⟨mo_269, List.forall_mem_cons.mpr ⟨mo_270, List.forall_mem_cons.mpr ⟨mo_271, List.forall_mem_cons.mpr ⟨mo_272, List.forall_mem_cons.mpr ⟨mo_273, List.forall_mem_cons.mpr ⟨mo_274, List.forall_mem_cons.mpr ⟨mo_275, List.forall_mem_cons.mpr ⟨mo_276, List.forall_mem_cons.mpr ⟨mo_277, List.forall_mem_cons.mpr ⟨mo_278, List.forall_mem_cons.mpr ⟨mo_279, List.forall_mem_cons.mpr ⟨mo_280, List.forall_mem_cons.mpr ⟨mo_281, List.forall_mem_cons.mpr ⟨mo_282, List.forall_mem_cons.mpr ⟨mo_283, List.forall_mem_cons.mpr ⟨mo_284, List.forall_mem_cons.mpr ⟨mo_285, fun _ h => absurd h List.not_mem_nil⟩⟩⟩⟩⟩⟩⟩⟩⟩⟩⟩⟩⟩⟩⟩⟩⟩⟩⟩⟩⟩⟩⟩⟩⟩⟩⟩⟩⟩⟩⟩⟩⟩⟩⟩⟩⟩⟩⟩⟩⟩⟩⟩⟩⟩⟩
end
section
/-! ===== A PURE INTERPRETER: worlds are lists of cells, references are places in them ===== -/
abbrev pi_E : Type := (Nat × vp_A) ⊕ (Nat × List Value)
abbrev pi_W : Type := List pi_E
abbrev pi_L : Type := List (Nat × Value)
/-- place, locals, stack, world -/
abbrev pi_S : Type := Nat × pi_L × List Value × pi_W
/-- answer, world, cells and slots made -/
abbrev pi_R : Type := Option Value × pi_W × Nat × Nat
/-- the place that stands for the one String constant -/
def pi_str : Nat := 1000000
def pi_get (lv : pi_L) (i : Nat) : Option Value := (lv.find? (fun q => q.1 == i)).map (fun q => q.2)
def pi_set (lv : pi_L) (i : Nat) (v : Value) : pi_L := (i, v) :: lv.filter (fun q => !(q.1 == i) && !(q.1 + 1 == i && q.2.category == 2))
def pi_cmp (c : ClassFile.Cond) (x y : Int32) : Bool := match c with
  | .eq => decide (x = y)
  | .ne => decide (¬ x = y)
  | .lt => decide (x < y)
  | .ge => decide (y ≤ x)
  | .gt => decide (y < x)
  | .le => decide (x ≤ y)
def pi_tgt (pc : Nat) (off : Int) : Option Nat := if 0 ≤ (pc : Int) + off then some ((pc : Int) + off).toNat else none
def pi_look {α : Type} (T : List (List (Nat × α))) (own cp : Nat) : Option α := match T[own]? with
  | none => none
  | some t => (t.find? (fun q => q.1 == cp)).map (fun q => q.2)
def pi_jump (t : Option Nat) (lv : pi_L) (st : List Value) (w : pi_W) : Option pi_S := match t with
  | none => none
  | some t => some (t, lv, st, w)
def pi_step (own : Nat) (ini : Bool) (nL : Nat) (i : Instr) (len : Nat) (s : pi_S) : Option pi_S := match s with
  | (pc, lv, st, w) => match i with
    | .iconst n => if len = 1 then some (pc + 1, lv, .int (Int32.ofInt n) :: st, w) else none
    | .bipush n => if len = 2 then some (pc + 2, lv, .int (Int8.ofInt n).toInt32 :: st, w) else none
    | .sipush n => if len = 3 then some (pc + 3, lv, .int (Int16.ofInt n).toInt32 :: st, w) else none
    | .lconst n => if len = 1 then some (pc + 1, lv, .long (Int64.ofNat (n : Nat)) :: st, w) else none
    | .ldc k => if len = 2 then (match pi_look pi_lT own k with
      | some (v, _) => some (pc + 2, lv, .int v :: st, w)
      | none => if own = 9 ∧ k = 19 then some (pc + 2, lv, .ref pi_str :: st, w) else none) else none
    | .ldc_w k => if len = 3 then (match pi_look pi_lT own k with
      | some (v, _) => some (pc + 3, lv, .int v :: st, w)
      | none => none) else none
    | .ldc2_w k => if len = 3 then (match pi_look pi_qT own k with
      | some (v, _) => some (pc + 3, lv, .long v :: st, w)
      | none => none) else none
    | .iload k => if len = 2 then (match pi_get lv k with
      | some (.int x) => some (pc + 2, lv, .int x :: st, w)
      | _ => none) else none
    | .iload_n k => if len = 1 then (match pi_get lv (k : Nat) with
      | some (.int x) => some (pc + 1, lv, .int x :: st, w)
      | _ => none) else none
    | .lload_n k => if len = 1 then (match pi_get lv (k : Nat) with
      | some (.long x) => some (pc + 1, lv, .long x :: st, w)
      | _ => none) else none
    | .aload_n k => if len = 1 then (match pi_get lv (k : Nat) with
      | some (.ref x) => some (pc + 1, lv, .ref x :: st, w)
      | _ => none) else none
    | .istore k => if len = 2 ∧ k < nL then (match st with
      | .int x :: r => some (pc + 2, pi_set lv k (.int x), r, w)
      | _ => none) else none
    | .istore_n k => if len = 1 ∧ (k : Nat) < nL then (match st with
      | .int x :: r => some (pc + 1, pi_set lv (k : Nat) (.int x), r, w)
      | _ => none) else none
    | .iinc k n => if len = 3 ∧ k < nL then (match pi_get lv k with
      | some (.int x) => some (pc + 3, pi_set lv k (.int (x + Int32.ofInt n)), st, w)
      | _ => none) else none
    | .iadd => if len = 1 then (match st with
      | .int y :: .int x :: r => some (pc + 1, lv, .int (x + y) :: r, w)
      | _ => none) else none
    | .isub => if len = 1 then (match st with
      | .int y :: .int x :: r => some (pc + 1, lv, .int (x - y) :: r, w)
      | _ => none) else none
    | .imul => if len = 1 then (match st with
      | .int y :: .int x :: r => some (pc + 1, lv, .int (x * y) :: r, w)
      | _ => none) else none
    | .iand => if len = 1 then (match st with
      | .int y :: .int x :: r => some (pc + 1, lv, .int (x &&& y) :: r, w)
      | _ => none) else none
    | .ior => if len = 1 then (match st with
      | .int y :: .int x :: r => some (pc + 1, lv, .int (x ||| y) :: r, w)
      | _ => none) else none
    | .ixor => if len = 1 then (match st with
      | .int y :: .int x :: r => some (pc + 1, lv, .int (x ^^^ y) :: r, w)
      | _ => none) else none
    | .irem => if len = 1 then (match st with
      | .int y :: .int x :: r => if y = 0 then none else some (pc + 1, lv, .int (x - x / y * y) :: r, w)
      | _ => none) else none
    | .ishl => if len = 1 then (match st with
      | .int y :: .int x :: r => some (pc + 1, lv, .int (x <<< (y &&& 31)) :: r, w)
      | _ => none) else none
    | .ishr => if len = 1 then (match st with
      | .int y :: .int x :: r => some (pc + 1, lv, .int (x >>> (y &&& 31)) :: r, w)
      | _ => none) else none
    | .iushr => if len = 1 then (match st with
      | .int y :: .int x :: r => some (pc + 1, lv, .int (x.toUInt32 >>> (y.toUInt32 &&& Int32.toUInt32 31)).toInt32 :: r, w)
      | _ => none) else none
    | .i2b => if len = 1 then (match st with
      | .int x :: r => some (pc + 1, lv, .int x.toInt8.toInt32 :: r, w)
      | _ => none) else none
    | .i2l => if len = 1 then (match st with
      | .int x :: r => some (pc + 1, lv, .long x.toInt64 :: r, w)
      | _ => none) else none
    | .ladd => if len = 1 then (match st with
      | .long y :: .long x :: r => some (pc + 1, lv, .long (x + y) :: r, w)
      | _ => none) else none
    | .lmul => if len = 1 then (match st with
      | .long y :: .long x :: r => some (pc + 1, lv, .long (x * y) :: r, w)
      | _ => none) else none
    | .lor => if len = 1 then (match st with
      | .long y :: .long x :: r => some (pc + 1, lv, .long (x ||| y) :: r, w)
      | _ => none) else none
    | .lshl => if len = 1 then (match st with
      | .int y :: .long x :: r => some (pc + 1, lv, .long (x <<< (y.toInt64 &&& 63)) :: r, w)
      | _ => none) else none
    | .lcmp => if len = 1 then (match st with
      | .long y :: .long x :: r => some (pc + 1, lv, .int (lg_cmp x y) :: r, w)
      | _ => none) else none
    | .dup => if len = 1 then (match st with
      | v :: r => if v.category = 1 then some (pc + 1, lv, v :: v :: r, w) else none
      | _ => none) else none
    | .pop => if len = 1 then (match st with
      | v :: r => if v.category = 1 then some (pc + 1, lv, r, w) else none
      | _ => none) else none
    | .dup2 => if len = 1 then (match st with
      | v :: u :: r => if v.category = 1 ∧ u.category = 1 then some (pc + 1, lv, v :: u :: v :: u :: r, w) else none
      | _ => none) else none
    | .ifCond c off => if len = 3 then (match st with
      | .int x :: r => (match pi_tgt pc off with
        | none => none
        | some t => if pi_cmp c x 0 = true then some (t, lv, r, w) else some (pc + 3, lv, r, w))
      | _ => none) else none
    | .if_icmp c off => if len = 3 then (match st with
      | .int y :: .int x :: r => (match pi_tgt pc off with
        | none => none
        | some t => if pi_cmp c x y = true then some (t, lv, r, w) else some (pc + 3, lv, r, w))
      | _ => none) else none
    | .goto off => if len = 3 then pi_jump (pi_tgt pc off) lv st w else none
    | .tableswitch dflt lo hi offs => (match st with
      | .int x :: r => if x.toInt < lo ∨ hi < x.toInt then pi_jump (pi_tgt pc dflt) lv r w else (match offs[(x.toInt - lo).toNat]? with
        | some off => pi_jump (pi_tgt pc off) lv r w
        | none => none)
      | _ => none)
    | .lookupswitch dflt ps => (match st with
      | .int x :: r => if (ps.toList.zip (ps.toList.drop 1)).all (fun (a, next) => a.1 < next.1) = true then pi_jump (pi_tgt pc (Op.lookupswitch.offset ps.toList dflt x.toInt)) lv r w else none
      | _ => none)
    | .iaload => if len = 1 then (match st with
      | .int i :: .ref a :: r => (match w[a]? with
        | some (.inl (0, n, .inl f)) => if i < 0 ∨ n ≤ i.toNatClampNeg then none else some (pc + 1, lv, .int (f i.toNatClampNeg) :: r, w)
        | _ => none)
      | _ => none) else none
    | .baload => if len = 1 then (match st with
      | .int i :: .ref a :: r => (match w[a]? with
        | some (.inl (1, n, .inl f)) => if i < 0 ∨ n ≤ i.toNatClampNeg then none else some (pc + 1, lv, .int (f i.toNatClampNeg) :: r, w)
        | some (.inl (3, n, .inl f)) => if i < 0 ∨ n ≤ i.toNatClampNeg then none else some (pc + 1, lv, .int (f i.toNatClampNeg) :: r, w)
        | _ => none)
      | _ => none) else none
    | .laload => if len = 1 then (match st with
      | .int i :: .ref a :: r => (match w[a]? with
        | some (.inl (2, n, .inr (.inl f))) => if i < 0 ∨ n ≤ i.toNatClampNeg then none else some (pc + 1, lv, .long (f i.toNatClampNeg) :: r, w)
        | _ => none)
      | _ => none) else none
    | .iastore => if len = 1 then (match st with
      | .int x :: .int i :: .ref a :: r => (match w[a]? with
        | some (.inl (0, n, .inl f)) => if i < 0 ∨ n ≤ i.toNatClampNeg then none else some (pc + 1, lv, r, w.set a (.inl (0, n, .inl (upd f i.toNatClampNeg x))))
        | _ => none)
      | _ => none) else none
    | .bastore => if len = 1 then (match st with
      | .int x :: .int i :: .ref a :: r => (match w[a]? with
        | some (.inl (1, n, .inl f)) => if i < 0 ∨ n ≤ i.toNatClampNeg then none else some (pc + 1, lv, r, w.set a (.inl (1, n, .inl (upd f i.toNatClampNeg (vp_nar .byte x)))))
        | some (.inl (3, n, .inl f)) => if i < 0 ∨ n ≤ i.toNatClampNeg then none else some (pc + 1, lv, r, w.set a (.inl (3, n, .inl (upd f i.toNatClampNeg (vp_nar .boolean x)))))
        | _ => none)
      | _ => none) else none
    | .lastore => if len = 1 then (match st with
      | .long x :: .int i :: .ref a :: r => (match w[a]? with
        | some (.inl (2, n, .inr (.inl f))) => if i < 0 ∨ n ≤ i.toNatClampNeg then none else some (pc + 1, lv, r, w.set a (.inl (2, n, .inr (.inl (vp_updL f i.toNatClampNeg x)))))
        | _ => none)
      | _ => none) else none
    | .arraylength => if len = 1 then (match st with
      | .ref a :: r => (match w[a]? with
        | some (.inl (t, x)) => if t < 4 then some (pc + 1, lv, .int (Int32.ofNat x.1) :: r, w) else none
        | _ => none)
      | _ => none) else none
    | .getfield cp => if len = 3 then (match st with
      | .ref a :: r => (match pi_look pi_fT own cp with
        | some (ci, k, _) => (match w[a]? with
          | some (.inr (c, fs)) => if c = ci then (match fs[k]? with
            | some v => some (pc + 3, lv, v :: r, w)
            | none => none) else none
          | _ => none)
        | none => none)
      | _ => none) else none
    | .putfield cp => if len = 3 then (match st with
      | v :: .ref a :: r => (match pi_look pi_fT own cp with
        | some (ci, k, _) => (match w[a]? with
          | some (.inr (c, fs)) => if c = ci ∧ k < fs.length ∧ narrow (pi_ty ci k) v = v ∧ fits (pi_ty ci k) v = true ∧ ((ini = true ∧ ci = own) ∨ (vwCl[ci]?.map (fun q => (q.2.1 k).2.2.2)) = some false) then some (pc + 3, lv, r, w.set a (.inr (ci, fs.set k v))) else none
          | _ => none)
        | none => none)
      | _ => none) else none
    | _ => none
def pi_wfV (n : Nat) (v : Value) : Bool := match v with
  | .ref a => decide (a < n) || a == pi_str
  | _ => true
def pi_wfL (n : Nat) (lv : pi_L) : Bool := lv.all (fun q => pi_wfV n q.2)
def pi_wfW (n : Nat) (w : pi_W) : Bool := w.all (fun e => match e with
  | .inl _ => true
  | .inr (_, fs) => fs.all (pi_wfV n))
def pi_wf (lv : pi_L) (st : List Value) (w : pi_W) : Bool := decide (w.length < pi_str) && pi_wfL w.length lv && st.all (pi_wfV w.length) && pi_wfW w.length w
def pi_dflt (ci N : Nat) : List Value := (List.range N).map (fun k => defaultValue (pi_ty ci k))
/-- new and newarray -/
def pi_new (own : Nat) (i : Instr) (len : Nat) (s : pi_S) : Option (pi_S × Nat) := match s with
  | (pc, lv, st, w) => match i with
    | .new k => if len = 3 ∧ pi_wf lv st w = true then (match pi_look pi_nT own k with
      | some (ci, _) => (match vwCl[ci]? with
        | some (_, _, N) => some ((pc + 3, lv, .ref w.length :: st, w ++ [.inr (ci, pi_dflt ci N)]), N)
        | none => none)
      | none => none) else none
    | .newarray t => if len = 2 ∧ pi_wf lv st w = true then (match st with
      | .int n :: r => if n < 0 ∨ 100000 < n.toNatClampNeg then none else (match t with
        | .int => some ((pc + 2, lv, .ref w.length :: r, w ++ [.inl (0, n.toNatClampNeg, .inl (fun _ => 0))]), n.toNatClampNeg)
        | .byte => some ((pc + 2, lv, .ref w.length :: r, w ++ [.inl (1, n.toNatClampNeg, .inl (fun _ => 0))]), n.toNatClampNeg)
        | .long => some ((pc + 2, lv, .ref w.length :: r, w ++ [.inl (2, n.toNatClampNeg, .inr (.inl (fun _ => 0)))]), n.toNatClampNeg)
        | .boolean => some ((pc + 2, lv, .ref w.length :: r, w ++ [.inl (3, n.toNatClampNeg, .inl (fun _ => 0))]), n.toNatClampNeg)
        | _ => none)
      | _ => none) else none
    | _ => none
def pi_bytes : List Int32 := ("place road deed law repeal man round clerk post goes does wears bares fevers posts rains day or and not blind free bound may in sight words did number".toList.map (fun c => Int32.ofNat c.toNat))
def pi_cats (st : List Value) : Nat := (st.map fun v => v.category).sum
/-- calls of methods that are no rows of the table -/
def pi_spec (kind : Nat) (s : pi_S) : Option pi_S := match s with
  | (pc, lv, st, w) => match kind with
    | 4 => (match st with
      | .ref _ :: r => if pi_cats r ≤ 8 then some (pc + 3, lv, r, w) else none
      | _ => none)
    | 5 => (match st with
      | .int n :: .int dp :: .ref a1 :: .int sp :: .ref a0 :: r => if pi_cats r ≤ 8 ∧ ¬ sp < 0 ∧ ¬ dp < 0 ∧ ¬ n < 0 then (match w[a0]?, w[a1]? with
        | some (.inl (0, n0, .inl f)), some (.inl (0, n1, .inl g)) => if sp.toNatClampNeg + n.toNatClampNeg ≤ n0 ∧ dp.toNatClampNeg + n.toNatClampNeg ≤ n1 then some (pc + 3, lv, r, w.set a1 (.inl (0, n1, .inl (va_cpy f g sp.toNatClampNeg dp.toNatClampNeg n.toNatClampNeg)))) else none
        | some (.inl (2, n0, .inr (.inl f))), some (.inl (2, n1, .inr (.inl g))) => if sp.toNatClampNeg + n.toNatClampNeg ≤ n0 ∧ dp.toNatClampNeg + n.toNatClampNeg ≤ n1 then some (pc + 3, lv, r, w.set a1 (.inl (2, n1, .inr (.inl (va_cpy f g sp.toNatClampNeg dp.toNatClampNeg n.toNatClampNeg))))) else none
        | _, _ => none) else none
      | _ => none)
    | 6 => (match st with
      | .ref a :: r => if a = pi_str ∧ pi_cats r ≤ 8 then some (pc + 3, lv, .int (Int32.ofNat pi_bytes.length) :: r, w) else none
      | _ => none)
    | 7 => (match st with
      | .int i :: .ref a :: r => if a = pi_str ∧ pi_cats r ≤ 8 ∧ ¬ (i < 0 ∨ pi_bytes.length ≤ i.toNatClampNeg) then some (pc + 3, lv, .int (pi_bytes.getD i.toNatClampNeg 0) :: r, w) else none
      | _ => none)
    | 8 => (match st with
      | .int y :: .int x :: r => if pi_cats r ≤ 8 then some (pc + 3, lv, .int (if y < x then y else x) :: r, w) else none
      | _ => none)
    | 9 => (match st with
      | .int y :: .int x :: r => if pi_cats r ≤ 8 then some (pc + 3, lv, .int (if x < y then y else x) :: r, w) else none
      | _ => none)
    | _ => none
def pi_fetch (tab : List (Nat × Instr × Nat)) (pc : Nat) : Option (Instr × Nat) := (tab.find? (fun q => q.1 == pc)).map (fun q => q.2)
/-- the ends of a method -/
def pi_end (ret : Option FieldType) (i : Instr) (len : Nat) (s : pi_S) : Option (Option Value) := match s with
  | (_, _, st, _) => match i with
    | .ireturn => if len = 1 then (match st, ret with
      | [.int v], some ty => if narrow ty (.int v) = .int v then some (some (.int v)) else none
      | _, _ => none) else none
    | .areturn => if len = 1 then (match st, ret with
      | [.ref a], some (.object _) => some (some (.ref a))
      | _, _ => none) else none
    | .return_ => if len = 1 then (match st, ret with
      | [], none => some none
      | _, _ => none) else none
    | _ => none
/-- which pool entry a call names, and which kinds it may be -/
def pi_inv (i : Instr) : Option (Nat × List Nat) := match i with
  | .invokestatic cp => some (cp, [0, 1, 5, 8, 9])
  | .invokevirtual cp => some (cp, [2, 6, 7])
  | .invokespecial cp => some (cp, [3, 4])
  | _ => none
def pi_isEnd (i : Instr) : Bool := match i with
  | .ireturn => true
  | .areturn => true
  | .return_ => true
  | _ => false
def pi_isNew (i : Instr) : Bool := match i with
  | .new _ => true
  | .newarray _ => true
  | _ => false
/-- may a method of class own be called here with these (receiver ahead)? -/
def pi_recv (kind ownz : Nat) (As : List Value) (w : pi_W) : Bool := match kind with
  | 0 => true
  | 1 => true
  | 2 => (match As with
    | .ref a :: _ => (match w[a]? with
      | some (.inr (c, _)) => c == ownz
      | _ => false)
    | _ => false)
  | 3 => (match As with
    | .ref _ :: _ => true
    | _ => false)
  | _ => false
/-- the arguments of a call (receiver ahead), and what stays on the stack -/
def pi_args (kind na : Nat) (mz : pi_M) (s : pi_S) : Option (List Value × List Value) :=
  let na' := if kind < 2 then na else na + 1
  let As := (s.2.2.1.take na').reverse
  let rest := s.2.2.1.drop na'
  if As.length = na' ∧ pi_cats rest ≤ 8 ∧ pi_recv kind mz.1 As s.2.2.2 = true ∧ (lg_sl As).length ≤ mz.2.1 ∧ mz.2.2.2.1 = (kind == 3) ∧ (kind ≠ 3 ∨ mz.2.2.1 = none) ∧ mz.2.1 ≤ 40 then some (As, rest) else none
/-- behind a call that made cells, the caller's own references must be old ones -/
def pi_keep (lv : pi_L) (rest : List Value) (w w' : pi_W) : Bool := w'.length == w.length || (pi_wfL w.length lv && rest.all (pi_wfV w.length))
def pi_run : Nat → Nat → pi_M → pi_S → Nat → Nat → Option pi_R
  | 0, _, _, _, _, _ => none
  | n + 1, d, mi, s, cu, su => match pi_fetch mi.2.2.2.2 s.1 with
    | none => none
    | some (i, len) =>
      if pi_isEnd i = true then (match pi_end mi.2.2.1 i len s with
        | none => none
        | some r => some (r, s.2.2.2, cu, su))
      else match pi_inv i with
      | some (cp, kinds) => (match pi_look pi_iT mi.1 cp with
        | none => none
        | some (kind, z, na, _) =>
          if kinds.contains kind = false ∨ len ≠ 3 then none
          else if 3 < kind then (if d < 5 ∧ (kind = 6 ∨ kind = 7) then none else match pi_spec kind s with
            | none => none
            | some s' => pi_run n d mi s' cu su)
          else (match d, pi_mt[z]? with
            | d' + 1, some (_, _, mz) => (match pi_args kind na mz s with
              | none => none
              | some (As, rest) => (match pi_run n d' mz (0, lv_args 0 As, [], s.2.2.2) 0 0 with
                | none => none
                | some (r, w', c', u') => if pi_keep s.2.1 rest s.2.2.2 w' = true then pi_run n d mi (s.1 + 3, s.2.1, r.toList ++ rest, w') (cu + c') (su + u') else none))
            | _, _ => none))
      | none => if pi_isNew i = true then (match pi_new mi.1 i len s with
          | none => none
          | some (s', k) => pi_run n d mi s' (cu + 1) (su + k))
        else (match pi_step mi.1 mi.2.2.2.1 mi.2.1 i len s with
          | none => none
          | some s' => pi_run n d mi s' cu su)
end
section
def pi_yn : List MethodName := [mn_0, mn_1, mn_2, mn_3, mn_4, mn_5, mn_6, mn_7, mn_8, mn_9, mn_10, mn_11, mn_12, mn_13, mn_14, mn_15, mn_16, mn_17, mn_18, mn_19, mn_20, mn_21, mn_22, mn_23, mn_24, mn_25, mn_26, mn_27, mn_28, mn_29, mn_30, mn_31, mn_32, mn_33, mn_34, mn_35, mn_36, mn_37, mn_38, mn_39, mn_40, mn_41, mn_42, mn_43, mn_44, mn_45, mn_46, mn_47, mn_48, mn_49, mn_50, mn_51, mn_52, mn_53, mn_54, mn_55, mn_56, mn_57, mn_58, mn_59, mn_60, mn_61, mn_62, mn_63, mn_64, mn_65, mn_66, mn_67, mn_68, mn_69, mn_70, mn_71, mn_72, mn_73, mn_74, mn_75, mn_76, mn_77, mn_78, mn_79, mn_80, mn_81, mn_82, mn_83, mn_84, mn_85, mn_86, mn_87, mn_88, mn_89, mn_90, mn_91, mn_92, mn_93, mn_94, mn_95, mn_96, mn_97, mn_98, mn_99, mn_100, mn_101, mn_102, mn_103, mn_104, mn_105, mn_106, mn_107, mn_108, mn_109, mn_110, mn_111, mn_112, mn_113, mn_114, mn_115, mn_116, mn_117, mn_118, mn_119, mn_120, mn_121, mn_122, mn_123, mn_124, mn_125, mn_126, mn_127, mn_128, mn_129, mn_130, mn_131, mn_132, mn_133, mn_134, mn_135, mn_136, mn_137, mn_138, mn_139, mn_140, mn_141, mn_142, mn_143, mn_144, mn_145, mn_146, mn_147, mn_148, mn_149, mn_150, mn_151, mn_152, mn_153, mn_154, mn_155, mn_156, mn_157, mn_158, mn_159, mn_160, mn_161, mn_162, mn_163, mn_164, mn_165, mn_166, mn_167, mn_168, mn_169, mn_170, mn_171, mn_172, mn_173, mn_174, mn_175, mn_176, mn_177, mn_178, mn_179, mn_180, mn_181, mn_182, mn_183, mn_184, mn_185, mn_186, mn_187, mn_188, mn_189, mn_190, mn_191, mn_192, mn_193, mn_194, mn_195, mn_196, mn_197, mn_198, mn_199, mn_200, mn_201, mn_202, mn_203, mn_204, mn_205, mn_206, mn_207, mn_208, mn_209, mn_210, mn_211, mn_212, mn_213, mn_214, mn_215, mn_216, mn_217, mn_218, mn_219, mn_220, mn_221, mn_222, mn_223, mn_224, mn_225, mn_226, mn_227, mn_228, mn_229, mn_230, mn_231, mn_232, mn_233, mn_234, mn_235, mn_236, mn_237, mn_238, mn_239, mn_240, mn_241, mn_242, mn_243, mn_244, mn_245, mn_246, mn_247, mn_248, mn_249, mn_250, mn_251, mn_252, mn_253, mn_254, mn_255, mn_256, mn_257, mn_258, mn_259, mn_260, mn_261, mn_262, mn_263, mn_264, mn_265, mn_266, mn_267, mn_268, mn_269, mn_270, mn_271, mn_272, mn_273, mn_274, mn_275, mn_276, mn_277, mn_278, mn_279, mn_280, mn_281, mn_282, mn_283, mn_284, mn_285]
set_option maxRecDepth 100000 in
theorem pi_yn_eq : pi_mt.map (fun e => e.1) = pi_yn := rfl
def pi_good : List Cond := lw_tbl.filter goodWord
theorem pi_good_of {w : Cond} (h : w ∈ lw_tbl) (hg : goodWord w = true) : w ∈ pi_good := List.mem_filter.mpr ⟨h, hg⟩
theorem pi_good_all : GoodIn pi_good pi_good := fun w h => ⟨h, good_of_word (List.mem_filter.mp h).2⟩
def pi_okI (C : String) (cp kind z na : Nat) : Prop := match kind with
  | 0 => ∃ y, pi_yn[z]? = some y ∧ pi_mk[z]? = some (na, true) ∧ Cond.methodLink C cp y ∈ lw_tbl
  | 1 => ∃ y, pi_yn[z]? = some y ∧ pi_mk[z]? = some (na, true) ∧ Cond.methodLinkNest C cp y "ReadBound" ∈ pi_nest
  | 2 => ∃ y, pi_yn[z]? = some y ∧ pi_mk[z]? = some (na, false) ∧ Cond.methodLink C cp y ∈ lw_tbl
  | 3 => ∃ y, pi_yn[z]? = some y ∧ pi_mk[z]? = some (na, false) ∧ Cond.methodLink C cp y ∈ lw_tbl
  | 4 => Cond.methodLink C cp objectInit ∈ lw_tbl
  | 5 => Cond.methodLink C cp arraycopyName ∈ lw_tbl
  | 6 => Cond.methodLink C cp ⟨"java/lang/String", "length", "()I"⟩ ∈ lw_tbl
  | 7 => Cond.methodLink C cp ⟨"java/lang/String", "charAt", "(I)C"⟩ ∈ lw_tbl
  | 8 => Cond.methodLink C cp Lib.Math.min.name ∈ lw_tbl
  | 9 => Cond.methodLink C cp Lib.Math.max.name ∈ lw_tbl
  | _ => False
def pi_okF (C : String) (cp ci k : Nat) : Prop := ∃ (Cn : String) (T : u_T) (N : Nat), vwCl[ci]? = some (Cn, T, N) ∧ k < N ∧ Cond.fieldLink C cp (T k).1 (T k).2.1 (T k).2.2.1 ∈ lw_tbl
def pi_okN (C : String) (cp ci : Nat) : Prop := ∃ (Cn : String) (T : u_T) (N : Nat), vwCl[ci]? = some (Cn, T, N) ∧ Cond.classLink C cp Cn ∈ lw_tbl
def pi_okL (C : String) (cp : Nat) (v : Int32) : Prop := Cond.constant C cp v ∈ lw_tbl
def pi_okQ (C : String) (cp : Nat) (v : Int64) : Prop := Cond.constantLong C cp v ∈ lw_tbl
def pi_okC (ci : Nat) (C : String) (T : u_T) (N : Nat) : Prop := pi_cn[ci]? = some C ∧ (∀ w ∈ u_ws C T N, w ∈ lw_tbl) ∧ (∀ k, k < N → parseFieldDescriptor (T k).2.2.1 = some (pi_ty ci k)) ∧ (∀ a, a < N → ∀ b, b < N → a ≠ b → (T a).2.1 ≠ (T b).2.1) ∧ Cond.instantiable C N ∈ lw_tbl ∧ Cond.initialized C ∈ lw_tbl ∧ ∀ k, k < N → (T k).1 = C
set_option maxRecDepth 100000 in
theorem li_0_3 : pi_okI RX0 3 4 0 0 := List.mem_of_getElem? (i := 330) (by decide +kernel)
set_option maxRecDepth 100000 in
theorem li_0_33 : pi_okI RX0 33 2 97 1 := ⟨mn_97, by decide +kernel, by decide +kernel, List.mem_of_getElem? (i := 1004) (by decide +kernel)⟩
set_option maxRecDepth 100000 in
theorem li_0_42 : pi_okI RX0 42 2 2 0 := ⟨mn_2, by decide +kernel, by decide +kernel, List.mem_of_getElem? (i := 1005) (by decide +kernel)⟩
set_option maxRecDepth 100000 in
theorem li_0_46 : pi_okI RX0 46 2 105 1 := ⟨mn_105, by decide +kernel, by decide +kernel, List.mem_of_getElem? (i := 1028) (by decide +kernel)⟩
set_option maxRecDepth 100000 in
theorem li_0_50 : pi_okI RX0 50 2 107 0 := ⟨mn_107, by decide +kernel, by decide +kernel, List.mem_of_getElem? (i := 1009) (by decide +kernel)⟩
set_option maxRecDepth 100000 in
theorem li_0_53 : pi_okI RX0 53 2 3 0 := ⟨mn_3, by decide +kernel, by decide +kernel, List.mem_of_getElem? (i := 1010) (by decide +kernel)⟩
set_option maxRecDepth 100000 in
theorem li_0_59 : pi_okI RX0 59 2 103 1 := ⟨mn_103, by decide +kernel, by decide +kernel, List.mem_of_getElem? (i := 1019) (by decide +kernel)⟩
set_option maxRecDepth 100000 in
theorem li_0_63 : pi_okI RX0 63 2 4 0 := ⟨mn_4, by decide +kernel, by decide +kernel, List.mem_of_getElem? (i := 1015) (by decide +kernel)⟩
set_option maxRecDepth 100000 in
theorem li_0_66 : pi_okI RX0 66 2 106 2 := ⟨mn_106, by decide +kernel, by decide +kernel, List.mem_of_getElem? (i := 1027) (by decide +kernel)⟩
set_option maxRecDepth 100000 in
theorem li_0_70 : pi_okI RX0 70 2 5 3 := ⟨mn_5, by decide +kernel, by decide +kernel, List.mem_of_getElem? (i := 1022) (by decide +kernel)⟩
set_option maxRecDepth 100000 in
theorem li_0_76 : pi_okI RX0 76 2 109 2 := ⟨mn_109, by decide +kernel, by decide +kernel, List.mem_of_getElem? (i := 1021) (by decide +kernel)⟩
set_option maxRecDepth 100000 in
theorem li_0_80 : pi_okI RX0 80 2 108 2 := ⟨mn_108, by decide +kernel, by decide +kernel, List.mem_of_getElem? (i := 1014) (by decide +kernel)⟩
set_option maxRecDepth 100000 in
theorem li_0_83 : pi_okI RX0 83 2 98 0 := ⟨mn_98, by decide +kernel, by decide +kernel, List.mem_of_getElem? (i := 1020) (by decide +kernel)⟩
set_option maxRecDepth 100000 in
theorem li_0_86 : pi_okI RX0 86 1 160 3 := ⟨mn_160, by decide +kernel, by decide +kernel, List.mem_of_getElem? (i := 10) (by decide +kernel)⟩
theorem li_a0 : ∀ e ∈ ([(3, 4, 0, 0, 330), (33, 2, 97, 1, 1004), (42, 2, 2, 0, 1005), (46, 2, 105, 1, 1028), (50, 2, 107, 0, 1009), (53, 2, 3, 0, 1010), (59, 2, 103, 1, 1019), (63, 2, 4, 0, 1015), (66, 2, 106, 2, 1027), (70, 2, 5, 3, 1022), (76, 2, 109, 2, 1021), (80, 2, 108, 2, 1014), (83, 2, 98, 0, 1020), (86, 1, 160, 3, 1026)] : List (Nat × Nat × Nat × Nat × Nat)), pi_okI RX0 e.1 e.2.1 e.2.2.1 e.2.2.2.1 := List.forall_mem_cons.mpr ⟨li_0_3, List.forall_mem_cons.mpr ⟨li_0_33, List.forall_mem_cons.mpr ⟨li_0_42, List.forall_mem_cons.mpr ⟨li_0_46, List.forall_mem_cons.mpr ⟨li_0_50, List.forall_mem_cons.mpr ⟨li_0_53, List.forall_mem_cons.mpr ⟨li_0_59, List.forall_mem_cons.mpr ⟨li_0_63, List.forall_mem_cons.mpr ⟨li_0_66, List.forall_mem_cons.mpr ⟨li_0_70, List.forall_mem_cons.mpr ⟨li_0_76, List.forall_mem_cons.mpr ⟨li_0_80, List.forall_mem_cons.mpr ⟨li_0_83, List.forall_mem_cons.mpr ⟨li_0_86, fun _ h => absurd h List.not_mem_nil⟩⟩⟩⟩⟩⟩⟩⟩⟩⟩⟩⟩⟩⟩
set_option maxRecDepth 100000 in
theorem li_1_1 : pi_okI RX1 1 4 0 0 := List.mem_of_getElem? (i := 380) (by decide +kernel)
set_option maxRecDepth 100000 in
theorem li_1_9 : pi_okI RX1 9 3 9 0 := ⟨mn_9, by decide +kernel, by decide +kernel, List.mem_of_getElem? (i := 382) (by decide +kernel)⟩
set_option maxRecDepth 100000 in
theorem li_1_22 : pi_okI RX1 22 3 35 1 := ⟨mn_35, by decide +kernel, by decide +kernel, List.mem_of_getElem? (i := 384) (by decide +kernel)⟩
set_option maxRecDepth 100000 in
theorem li_1_31 : pi_okI RX1 31 3 79 0 := ⟨mn_79, by decide +kernel, by decide +kernel, List.mem_of_getElem? (i := 386) (by decide +kernel)⟩
set_option maxRecDepth 100000 in
theorem li_1_36 : pi_okI RX1 36 2 11 1 := ⟨mn_11, by decide +kernel, by decide +kernel, List.mem_of_getElem? (i := 1119) (by decide +kernel)⟩
set_option maxRecDepth 100000 in
theorem li_1_40 : pi_okI RX1 40 2 36 1 := ⟨mn_36, by decide +kernel, by decide +kernel, List.mem_of_getElem? (i := 1120) (by decide +kernel)⟩
set_option maxRecDepth 100000 in
theorem li_1_43 : pi_okI RX1 43 2 81 1 := ⟨mn_81, by decide +kernel, by decide +kernel, List.mem_of_getElem? (i := 1121) (by decide +kernel)⟩
theorem li_a1 : ∀ e ∈ ([(1, 4, 0, 0, 380), (9, 3, 9, 0, 382), (22, 3, 35, 1, 384), (31, 3, 79, 0, 386), (36, 2, 11, 1, 1119), (40, 2, 36, 1, 1120), (43, 2, 81, 1, 1121)] : List (Nat × Nat × Nat × Nat × Nat)), pi_okI RX1 e.1 e.2.1 e.2.2.1 e.2.2.2.1 := List.forall_mem_cons.mpr ⟨li_1_1, List.forall_mem_cons.mpr ⟨li_1_9, List.forall_mem_cons.mpr ⟨li_1_22, List.forall_mem_cons.mpr ⟨li_1_31, List.forall_mem_cons.mpr ⟨li_1_36, List.forall_mem_cons.mpr ⟨li_1_40, List.forall_mem_cons.mpr ⟨li_1_43, fun _ h => absurd h List.not_mem_nil⟩⟩⟩⟩⟩⟩⟩
set_option maxRecDepth 100000 in
theorem li_2_5 : pi_okI RX2 5 4 0 0 := List.mem_of_getElem? (i := 223) (by decide +kernel)
set_option maxRecDepth 100000 in
theorem li_2_19 : pi_okI RX2 19 1 161 2 := ⟨mn_161, by decide +kernel, by decide +kernel, List.mem_of_getElem? (i := 4) (by decide +kernel)⟩
set_option maxRecDepth 100000 in
theorem li_2_23 : pi_okI RX2 23 8 0 2 := List.mem_of_getElem? (i := 636) (by decide +kernel)
set_option maxRecDepth 100000 in
theorem li_2_29 : pi_okI RX2 29 5 0 5 := List.mem_of_getElem? (i := 637) (by decide +kernel)
set_option maxRecDepth 100000 in
theorem li_2_35 : pi_okI RX2 35 1 159 2 := ⟨mn_159, by decide +kernel, by decide +kernel, List.mem_of_getElem? (i := 1) (by decide +kernel)⟩
set_option maxRecDepth 100000 in
theorem li_2_39 : pi_okI RX2 39 1 160 3 := ⟨mn_160, by decide +kernel, by decide +kernel, List.mem_of_getElem? (i := 2) (by decide +kernel)⟩
theorem li_a2 : ∀ e ∈ ([(5, 4, 0, 0, 223), (19, 1, 161, 2, 629), (23, 8, 0, 2, 636), (29, 5, 0, 5, 637), (35, 1, 159, 2, 540), (39, 1, 160, 3, 545)] : List (Nat × Nat × Nat × Nat × Nat)), pi_okI RX2 e.1 e.2.1 e.2.2.1 e.2.2.2.1 := List.forall_mem_cons.mpr ⟨li_2_5, List.forall_mem_cons.mpr ⟨li_2_19, List.forall_mem_cons.mpr ⟨li_2_23, List.forall_mem_cons.mpr ⟨li_2_29, List.forall_mem_cons.mpr ⟨li_2_35, List.forall_mem_cons.mpr ⟨li_2_39, fun _ h => absurd h List.not_mem_nil⟩⟩⟩⟩⟩⟩
set_option maxRecDepth 100000 in
theorem li_3_3 : pi_okI RX3 3 4 0 0 := List.mem_of_getElem? (i := 240) (by decide +kernel)
set_option maxRecDepth 100000 in
theorem li_3_19 : pi_okI RX3 19 2 10 0 := ⟨mn_10, by decide +kernel, by decide +kernel, List.mem_of_getElem? (i := 479) (by decide +kernel)⟩
set_option maxRecDepth 100000 in
theorem li_3_24 : pi_okI RX3 24 2 97 1 := ⟨mn_97, by decide +kernel, by decide +kernel, List.mem_of_getElem? (i := 483) (by decide +kernel)⟩
set_option maxRecDepth 100000 in
theorem li_3_34 : pi_okI RX3 34 2 22 0 := ⟨mn_22, by decide +kernel, by decide +kernel, List.mem_of_getElem? (i := 512) (by decide +kernel)⟩
set_option maxRecDepth 100000 in
theorem li_3_38 : pi_okI RX3 38 2 105 1 := ⟨mn_105, by decide +kernel, by decide +kernel, List.mem_of_getElem? (i := 620) (by decide +kernel)⟩
set_option maxRecDepth 100000 in
theorem li_3_45 : pi_okI RX3 45 2 23 2 := ⟨mn_23, by decide +kernel, by decide +kernel, List.mem_of_getElem? (i := 516) (by decide +kernel)⟩
set_option maxRecDepth 100000 in
theorem li_3_49 : pi_okI RX3 49 2 24 1 := ⟨mn_24, by decide +kernel, by decide +kernel, List.mem_of_getElem? (i := 528) (by decide +kernel)⟩
set_option maxRecDepth 100000 in
theorem li_3_53 : pi_okI RX3 53 2 25 0 := ⟨mn_25, by decide +kernel, by decide +kernel, List.mem_of_getElem? (i := 548) (by decide +kernel)⟩
set_option maxRecDepth 100000 in
theorem li_3_56 : pi_okI RX3 56 2 26 0 := ⟨mn_26, by decide +kernel, by decide +kernel, List.mem_of_getElem? (i := 576) (by decide +kernel)⟩
set_option maxRecDepth 100000 in
theorem li_3_59 : pi_okI RX3 59 2 27 0 := ⟨mn_27, by decide +kernel, by decide +kernel, List.mem_of_getElem? (i := 584) (by decide +kernel)⟩
set_option maxRecDepth 100000 in
theorem li_3_62 : pi_okI RX3 62 2 29 0 := ⟨mn_29, by decide +kernel, by decide +kernel, List.mem_of_getElem? (i := 596) (by decide +kernel)⟩
set_option maxRecDepth 100000 in
theorem li_3_65 : pi_okI RX3 65 2 30 0 := ⟨mn_30, by decide +kernel, by decide +kernel, List.mem_of_getElem? (i := 600) (by decide +kernel)⟩
set_option maxRecDepth 100000 in
theorem li_3_68 : pi_okI RX3 68 2 98 0 := ⟨mn_98, by decide +kernel, by decide +kernel, List.mem_of_getElem? (i := 527) (by decide +kernel)⟩
set_option maxRecDepth 100000 in
theorem li_3_71 : pi_okI RX3 71 2 31 0 := ⟨mn_31, by decide +kernel, by decide +kernel, List.mem_of_getElem? (i := 604) (by decide +kernel)⟩
set_option maxRecDepth 100000 in
theorem li_3_74 : pi_okI RX3 74 2 33 0 := ⟨mn_33, by decide +kernel, by decide +kernel, List.mem_of_getElem? (i := 612) (by decide +kernel)⟩
set_option maxRecDepth 100000 in
theorem li_3_77 : pi_okI RX3 77 2 34 0 := ⟨mn_34, by decide +kernel, by decide +kernel, List.mem_of_getElem? (i := 616) (by decide +kernel)⟩
set_option maxRecDepth 100000 in
theorem li_3_80 : pi_okI RX3 80 2 103 1 := ⟨mn_103, by decide +kernel, by decide +kernel, List.mem_of_getElem? (i := 523) (by decide +kernel)⟩
set_option maxRecDepth 100000 in
theorem li_3_88 : pi_okI RX3 88 1 159 2 := ⟨mn_159, by decide +kernel, by decide +kernel, List.mem_of_getElem? (i := 0) (by decide +kernel)⟩
set_option maxRecDepth 100000 in
theorem li_3_92 : pi_okI RX3 92 2 107 0 := ⟨mn_107, by decide +kernel, by decide +kernel, List.mem_of_getElem? (i := 532) (by decide +kernel)⟩
set_option maxRecDepth 100000 in
theorem li_3_99 : pi_okI RX3 99 2 12 1 := ⟨mn_12, by decide +kernel, by decide +kernel, List.mem_of_getElem? (i := 536) (by decide +kernel)⟩
set_option maxRecDepth 100000 in
theorem li_3_103 : pi_okI RX3 103 2 14 2 := ⟨mn_14, by decide +kernel, by decide +kernel, List.mem_of_getElem? (i := 541) (by decide +kernel)⟩
set_option maxRecDepth 100000 in
theorem li_3_107 : pi_okI RX3 107 2 109 2 := ⟨mn_109, by decide +kernel, by decide +kernel, List.mem_of_getElem? (i := 552) (by decide +kernel)⟩
set_option maxRecDepth 100000 in
theorem li_3_111 : pi_okI RX3 111 2 108 2 := ⟨mn_108, by decide +kernel, by decide +kernel, List.mem_of_getElem? (i := 566) (by decide +kernel)⟩
set_option maxRecDepth 100000 in
theorem li_3_114 : pi_okI RX3 114 2 16 2 := ⟨mn_16, by decide +kernel, by decide +kernel, List.mem_of_getElem? (i := 567) (by decide +kernel)⟩
set_option maxRecDepth 100000 in
theorem li_3_117 : pi_okI RX3 117 2 15 2 := ⟨mn_15, by decide +kernel, by decide +kernel, List.mem_of_getElem? (i := 571) (by decide +kernel)⟩
set_option maxRecDepth 100000 in
theorem li_3_121 : pi_okI RX3 121 1 160 3 := ⟨mn_160, by decide +kernel, by decide +kernel, List.mem_of_getElem? (i := 3) (by decide +kernel)⟩
set_option maxRecDepth 100000 in
theorem li_3_125 : pi_okI RX3 125 2 106 2 := ⟨mn_106, by decide +kernel, by decide +kernel, List.mem_of_getElem? (i := 580) (by decide +kernel)⟩
set_option maxRecDepth 100000 in
theorem li_3_129 : pi_okI RX3 129 2 28 1 := ⟨mn_28, by decide +kernel, by decide +kernel, List.mem_of_getElem? (i := 588) (by decide +kernel)⟩
set_option maxRecDepth 100000 in
theorem li_3_132 : pi_okI RX3 132 2 104 1 := ⟨mn_104, by decide +kernel, by decide +kernel, List.mem_of_getElem? (i := 592) (by decide +kernel)⟩
set_option maxRecDepth 100000 in
theorem li_3_135 : pi_okI RX3 135 2 32 1 := ⟨mn_32, by decide +kernel, by decide +kernel, List.mem_of_getElem? (i := 608) (by decide +kernel)⟩
theorem li_a3 : ∀ e ∈ ([(3, 4, 0, 0, 240), (19, 2, 10, 0, 479), (24, 2, 97, 1, 483), (34, 2, 22, 0, 512), (38, 2, 105, 1, 620), (45, 2, 23, 2, 516), (49, 2, 24, 1, 528), (53, 2, 25, 0, 548), (56, 2, 26, 0, 576), (59, 2, 27, 0, 584), (62, 2, 29, 0, 596), (65, 2, 30, 0, 600), (68, 2, 98, 0, 527), (71, 2, 31, 0, 604), (74, 2, 33, 0, 612), (77, 2, 34, 0, 616), (80, 2, 103, 1, 523), (88, 1, 159, 2, 520), (92, 2, 107, 0, 532), (99, 2, 12, 1, 536), (103, 2, 14, 2, 541), (107, 2, 109, 2, 552), (111, 2, 108, 2, 566), (114, 2, 16, 2, 567), (117, 2, 15, 2, 571), (121, 1, 160, 3, 575), (125, 2, 106, 2, 580), (129, 2, 28, 1, 588), (132, 2, 104, 1, 592), (135, 2, 32, 1, 608)] : List (Nat × Nat × Nat × Nat × Nat)), pi_okI RX3 e.1 e.2.1 e.2.2.1 e.2.2.2.1 := List.forall_mem_cons.mpr ⟨li_3_3, List.forall_mem_cons.mpr ⟨li_3_19, List.forall_mem_cons.mpr ⟨li_3_24, List.forall_mem_cons.mpr ⟨li_3_34, List.forall_mem_cons.mpr ⟨li_3_38, List.forall_mem_cons.mpr ⟨li_3_45, List.forall_mem_cons.mpr ⟨li_3_49, List.forall_mem_cons.mpr ⟨li_3_53, List.forall_mem_cons.mpr ⟨li_3_56, List.forall_mem_cons.mpr ⟨li_3_59, List.forall_mem_cons.mpr ⟨li_3_62, List.forall_mem_cons.mpr ⟨li_3_65, List.forall_mem_cons.mpr ⟨li_3_68, List.forall_mem_cons.mpr ⟨li_3_71, List.forall_mem_cons.mpr ⟨li_3_74, List.forall_mem_cons.mpr ⟨li_3_77, List.forall_mem_cons.mpr ⟨li_3_80, List.forall_mem_cons.mpr ⟨li_3_88, List.forall_mem_cons.mpr ⟨li_3_92, List.forall_mem_cons.mpr ⟨li_3_99, List.forall_mem_cons.mpr ⟨li_3_103, List.forall_mem_cons.mpr ⟨li_3_107, List.forall_mem_cons.mpr ⟨li_3_111, List.forall_mem_cons.mpr ⟨li_3_114, List.forall_mem_cons.mpr ⟨li_3_117, List.forall_mem_cons.mpr ⟨li_3_121, List.forall_mem_cons.mpr ⟨li_3_125, List.forall_mem_cons.mpr ⟨li_3_129, List.forall_mem_cons.mpr ⟨li_3_132, List.forall_mem_cons.mpr ⟨li_3_135, fun _ h => absurd h List.not_mem_nil⟩⟩⟩⟩⟩⟩⟩⟩⟩⟩⟩⟩⟩⟩⟩⟩⟩⟩⟩⟩⟩⟩⟩⟩⟩⟩⟩⟩⟩⟩
set_option maxRecDepth 100000 in
theorem li_4_5 : pi_okI RX4 5 4 0 0 := List.mem_of_getElem? (i := 253) (by decide +kernel)
set_option maxRecDepth 100000 in
theorem li_4_18 : pi_okI RX4 18 1 161 2 := ⟨mn_161, by decide +kernel, by decide +kernel, List.mem_of_getElem? (i := 9) (by decide +kernel)⟩
set_option maxRecDepth 100000 in
theorem li_4_24 : pi_okI RX4 24 1 159 2 := ⟨mn_159, by decide +kernel, by decide +kernel, List.mem_of_getElem? (i := 5) (by decide +kernel)⟩
set_option maxRecDepth 100000 in
theorem li_4_28 : pi_okI RX4 28 1 160 3 := ⟨mn_160, by decide +kernel, by decide +kernel, List.mem_of_getElem? (i := 6) (by decide +kernel)⟩
set_option maxRecDepth 100000 in
theorem li_4_32 : pi_okI RX4 32 2 41 1 := ⟨mn_41, by decide +kernel, by decide +kernel, List.mem_of_getElem? (i := 644) (by decide +kernel)⟩
set_option maxRecDepth 100000 in
theorem li_4_36 : pi_okI RX4 36 2 42 2 := ⟨mn_42, by decide +kernel, by decide +kernel, List.mem_of_getElem? (i := 648) (by decide +kernel)⟩
set_option maxRecDepth 100000 in
theorem li_4_40 : pi_okI RX4 40 8 0 2 := List.mem_of_getElem? (i := 652) (by decide +kernel)
set_option maxRecDepth 100000 in
theorem li_4_46 : pi_okI RX4 46 9 0 2 := List.mem_of_getElem? (i := 653) (by decide +kernel)
set_option maxRecDepth 100000 in
theorem li_4_49 : pi_okI RX4 49 2 44 2 := ⟨mn_44, by decide +kernel, by decide +kernel, List.mem_of_getElem? (i := 752) (by decide +kernel)⟩
set_option maxRecDepth 100000 in
theorem li_4_52 : pi_okI RX4 52 2 60 1 := ⟨mn_60, by decide +kernel, by decide +kernel, List.mem_of_getElem? (i := 760) (by decide +kernel)⟩
set_option maxRecDepth 100000 in
theorem li_4_56 : pi_okI RX4 56 2 63 1 := ⟨mn_63, by decide +kernel, by decide +kernel, List.mem_of_getElem? (i := 764) (by decide +kernel)⟩
set_option maxRecDepth 100000 in
theorem li_4_59 : pi_okI RX4 59 2 38 0 := ⟨mn_38, by decide +kernel, by decide +kernel, List.mem_of_getElem? (i := 735) (by decide +kernel)⟩
set_option maxRecDepth 100000 in
theorem li_4_63 : pi_okI RX4 63 2 45 2 := ⟨mn_45, by decide +kernel, by decide +kernel, List.mem_of_getElem? (i := 756) (by decide +kernel)⟩
set_option maxRecDepth 100000 in
theorem li_4_67 : pi_okI RX4 67 2 47 1 := ⟨mn_47, by decide +kernel, by decide +kernel, List.mem_of_getElem? (i := 782) (by decide +kernel)⟩
set_option maxRecDepth 100000 in
theorem li_4_70 : pi_okI RX4 70 2 48 2 := ⟨mn_48, by decide +kernel, by decide +kernel, List.mem_of_getElem? (i := 786) (by decide +kernel)⟩
set_option maxRecDepth 100000 in
theorem li_4_73 : pi_okI RX4 73 2 50 0 := ⟨mn_50, by decide +kernel, by decide +kernel, List.mem_of_getElem? (i := 818) (by decide +kernel)⟩
set_option maxRecDepth 100000 in
theorem li_4_76 : pi_okI RX4 76 2 51 1 := ⟨mn_51, by decide +kernel, by decide +kernel, List.mem_of_getElem? (i := 822) (by decide +kernel)⟩
set_option maxRecDepth 100000 in
theorem li_4_83 : pi_okI RX4 83 2 54 1 := ⟨mn_54, by decide +kernel, by decide +kernel, List.mem_of_getElem? (i := 980) (by decide +kernel)⟩
set_option maxRecDepth 100000 in
theorem li_4_86 : pi_okI RX4 86 2 43 3 := ⟨mn_43, by decide +kernel, by decide +kernel, List.mem_of_getElem? (i := 985) (by decide +kernel)⟩
set_option maxRecDepth 100000 in
theorem li_4_90 : pi_okI RX4 90 2 46 3 := ⟨mn_46, by decide +kernel, by decide +kernel, List.mem_of_getElem? (i := 986) (by decide +kernel)⟩
set_option maxRecDepth 100000 in
theorem li_4_94 : pi_okI RX4 94 2 53 1 := ⟨mn_53, by decide +kernel, by decide +kernel, List.mem_of_getElem? (i := 987) (by decide +kernel)⟩
set_option maxRecDepth 100000 in
theorem li_4_97 : pi_okI RX4 97 2 49 1 := ⟨mn_49, by decide +kernel, by decide +kernel, List.mem_of_getElem? (i := 991) (by decide +kernel)⟩
set_option maxRecDepth 100000 in
theorem li_4_101 : pi_okI RX4 101 2 56 1 := ⟨mn_56, by decide +kernel, by decide +kernel, List.mem_of_getElem? (i := 727) (by decide +kernel)⟩
set_option maxRecDepth 100000 in
theorem li_4_104 : pi_okI RX4 104 2 57 1 := ⟨mn_57, by decide +kernel, by decide +kernel, List.mem_of_getElem? (i := 731) (by decide +kernel)⟩
set_option maxRecDepth 100000 in
theorem li_4_107 : pi_okI RX4 107 2 55 2 := ⟨mn_55, by decide +kernel, by decide +kernel, List.mem_of_getElem? (i := 736) (by decide +kernel)⟩
set_option maxRecDepth 100000 in
theorem li_4_110 : pi_okI RX4 110 2 59 1 := ⟨mn_59, by decide +kernel, by decide +kernel, List.mem_of_getElem? (i := 723) (by decide +kernel)⟩
set_option maxRecDepth 100000 in
theorem li_4_113 : pi_okI RX4 113 2 39 2 := ⟨mn_39, by decide +kernel, by decide +kernel, List.mem_of_getElem? (i := 768) (by decide +kernel)⟩
set_option maxRecDepth 100000 in
theorem li_4_116 : pi_okI RX4 116 0 285 1 := ⟨mn_285, by decide +kernel, by decide +kernel, List.mem_of_getElem? (i := 705) (by decide +kernel)⟩
set_option maxRecDepth 100000 in
theorem li_4_121 : pi_okI RX4 121 2 69 1 := ⟨mn_69, by decide +kernel, by decide +kernel, List.mem_of_getElem? (i := 681) (by decide +kernel)⟩
theorem li_a4 : ∀ e ∈ ([(5, 4, 0, 0, 253), (18, 1, 161, 2, 943), (24, 1, 159, 2, 642), (28, 1, 160, 3, 643), (32, 2, 41, 1, 644), (36, 2, 42, 2, 648), (40, 8, 0, 2, 652), (46, 9, 0, 2, 653), (49, 2, 44, 2, 752), (52, 2, 60, 1, 760), (56, 2, 63, 1, 764), (59, 2, 38, 0, 735), (63, 2, 45, 2, 756), (67, 2, 47, 1, 782), (70, 2, 48, 2, 786), (73, 2, 50, 0, 818), (76, 2, 51, 1, 822), (83, 2, 54, 1, 980), (86, 2, 43, 3, 985), (90, 2, 46, 3, 986), (94, 2, 53, 1, 987), (97, 2, 49, 1, 991), (101, 2, 56, 1, 727), (104, 2, 57, 1, 731), (107, 2, 55, 2, 736), (110, 2, 59, 1, 723), (113, 2, 39, 2, 768), (116, 0, 285, 1, 705), (121, 2, 69, 1, 681)] : List (Nat × Nat × Nat × Nat × Nat)), pi_okI RX4 e.1 e.2.1 e.2.2.1 e.2.2.2.1 := List.forall_mem_cons.mpr ⟨li_4_5, List.forall_mem_cons.mpr ⟨li_4_18, List.forall_mem_cons.mpr ⟨li_4_24, List.forall_mem_cons.mpr ⟨li_4_28, List.forall_mem_cons.mpr ⟨li_4_32, List.forall_mem_cons.mpr ⟨li_4_36, List.forall_mem_cons.mpr ⟨li_4_40, List.forall_mem_cons.mpr ⟨li_4_46, List.forall_mem_cons.mpr ⟨li_4_49, List.forall_mem_cons.mpr ⟨li_4_52, List.forall_mem_cons.mpr ⟨li_4_56, List.forall_mem_cons.mpr ⟨li_4_59, List.forall_mem_cons.mpr ⟨li_4_63, List.forall_mem_cons.mpr ⟨li_4_67, List.forall_mem_cons.mpr ⟨li_4_70, List.forall_mem_cons.mpr ⟨li_4_73, List.forall_mem_cons.mpr ⟨li_4_76, List.forall_mem_cons.mpr ⟨li_4_83, List.forall_mem_cons.mpr ⟨li_4_86, List.forall_mem_cons.mpr ⟨li_4_90, List.forall_mem_cons.mpr ⟨li_4_94, List.forall_mem_cons.mpr ⟨li_4_97, List.forall_mem_cons.mpr ⟨li_4_101, List.forall_mem_cons.mpr ⟨li_4_104, List.forall_mem_cons.mpr ⟨li_4_107, List.forall_mem_cons.mpr ⟨li_4_110, List.forall_mem_cons.mpr ⟨li_4_113, List.forall_mem_cons.mpr ⟨li_4_116, List.forall_mem_cons.mpr ⟨li_4_121, fun _ h => absurd h List.not_mem_nil⟩⟩⟩⟩⟩⟩⟩⟩⟩⟩⟩⟩⟩⟩⟩⟩⟩⟩⟩⟩⟩⟩⟩⟩⟩⟩⟩⟩⟩
set_option maxRecDepth 100000 in
theorem li_5_3 : pi_okI RX5 3 4 0 0 := List.mem_of_getElem? (i := 272) (by decide +kernel)
set_option maxRecDepth 100000 in
theorem li_5_24 : pi_okI RX5 24 8 0 2 := List.mem_of_getElem? (i := 776) (by decide +kernel)
set_option maxRecDepth 100000 in
theorem li_5_30 : pi_okI RX5 30 5 0 5 := List.mem_of_getElem? (i := 777) (by decide +kernel)
theorem li_a5 : ∀ e ∈ ([(3, 4, 0, 0, 272), (24, 8, 0, 2, 776), (30, 5, 0, 5, 777)] : List (Nat × Nat × Nat × Nat × Nat)), pi_okI RX5 e.1 e.2.1 e.2.2.1 e.2.2.2.1 := List.forall_mem_cons.mpr ⟨li_5_3, List.forall_mem_cons.mpr ⟨li_5_24, List.forall_mem_cons.mpr ⟨li_5_30, fun _ h => absurd h List.not_mem_nil⟩⟩⟩
set_option maxRecDepth 100000 in
theorem li_6_3 : pi_okI RX6 3 4 0 0 := List.mem_of_getElem? (i := 359) (by decide +kernel)
set_option maxRecDepth 100000 in
theorem li_6_25 : pi_okI RX6 25 1 160 3 := ⟨mn_160, by decide +kernel, by decide +kernel, List.mem_of_getElem? (i := 7) (by decide +kernel)⟩
set_option maxRecDepth 100000 in
theorem li_6_29 : pi_okI RX6 29 2 76 1 := ⟨mn_76, by decide +kernel, by decide +kernel, List.mem_of_getElem? (i := 896) (by decide +kernel)⟩
set_option maxRecDepth 100000 in
theorem li_6_33 : pi_okI RX6 33 2 77 2 := ⟨mn_77, by decide +kernel, by decide +kernel, List.mem_of_getElem? (i := 901) (by decide +kernel)⟩
set_option maxRecDepth 100000 in
theorem li_6_39 : pi_okI RX6 39 1 159 2 := ⟨mn_159, by decide +kernel, by decide +kernel, List.mem_of_getElem? (i := 8) (by decide +kernel)⟩
set_option maxRecDepth 100000 in
theorem li_6_43 : pi_okI RX6 43 0 78 1 := ⟨mn_78, by decide +kernel, by decide +kernel, List.mem_of_getElem? (i := 905) (by decide +kernel)⟩
theorem li_a6 : ∀ e ∈ ([(3, 4, 0, 0, 359), (25, 1, 160, 3, 895), (29, 2, 76, 1, 896), (33, 2, 77, 2, 901), (39, 1, 159, 2, 900), (43, 0, 78, 1, 905)] : List (Nat × Nat × Nat × Nat × Nat)), pi_okI RX6 e.1 e.2.1 e.2.2.1 e.2.2.2.1 := List.forall_mem_cons.mpr ⟨li_6_3, List.forall_mem_cons.mpr ⟨li_6_25, List.forall_mem_cons.mpr ⟨li_6_29, List.forall_mem_cons.mpr ⟨li_6_33, List.forall_mem_cons.mpr ⟨li_6_39, List.forall_mem_cons.mpr ⟨li_6_43, fun _ h => absurd h List.not_mem_nil⟩⟩⟩⟩⟩⟩
set_option maxRecDepth 100000 in
theorem li_7_3 : pi_okI RX7 3 4 0 0 := List.mem_of_getElem? (i := 288) (by decide +kernel)
set_option maxRecDepth 100000 in
theorem li_7_28 : pi_okI RX7 28 1 161 2 := ⟨mn_161, by decide +kernel, by decide +kernel, List.mem_of_getElem? (i := 12) (by decide +kernel)⟩
set_option maxRecDepth 100000 in
theorem li_7_32 : pi_okI RX7 32 1 160 3 := ⟨mn_160, by decide +kernel, by decide +kernel, List.mem_of_getElem? (i := 11) (by decide +kernel)⟩
set_option maxRecDepth 100000 in
theorem li_7_43 : pi_okI RX7 43 1 159 2 := ⟨mn_159, by decide +kernel, by decide +kernel, List.mem_of_getElem? (i := 13) (by decide +kernel)⟩
set_option maxRecDepth 100000 in
theorem li_7_47 : pi_okI RX7 47 2 84 2 := ⟨mn_84, by decide +kernel, by decide +kernel, List.mem_of_getElem? (i := 1092) (by decide +kernel)⟩
set_option maxRecDepth 100000 in
theorem li_7_51 : pi_okI RX7 51 2 85 3 := ⟨mn_85, by decide +kernel, by decide +kernel, List.mem_of_getElem? (i := 1096) (by decide +kernel)⟩
set_option maxRecDepth 100000 in
theorem li_7_58 : pi_okI RX7 58 2 59 1 := ⟨mn_59, by decide +kernel, by decide +kernel, List.mem_of_getElem? (i := 1100) (by decide +kernel)⟩
set_option maxRecDepth 100000 in
theorem li_7_62 : pi_okI RX7 62 2 60 1 := ⟨mn_60, by decide +kernel, by decide +kernel, List.mem_of_getElem? (i := 1101) (by decide +kernel)⟩
set_option maxRecDepth 100000 in
theorem li_7_65 : pi_okI RX7 65 2 86 2 := ⟨mn_86, by decide +kernel, by decide +kernel, List.mem_of_getElem? (i := 1102) (by decide +kernel)⟩
set_option maxRecDepth 100000 in
theorem li_7_69 : pi_okI RX7 69 2 63 1 := ⟨mn_63, by decide +kernel, by decide +kernel, List.mem_of_getElem? (i := 1106) (by decide +kernel)⟩
theorem li_a7 : ∀ e ∈ ([(3, 4, 0, 0, 288), (28, 1, 161, 2, 1082), (32, 1, 160, 3, 1068), (43, 1, 159, 2, 1091), (47, 2, 84, 2, 1092), (51, 2, 85, 3, 1096), (58, 2, 59, 1, 1100), (62, 2, 60, 1, 1101), (65, 2, 86, 2, 1102), (69, 2, 63, 1, 1106)] : List (Nat × Nat × Nat × Nat × Nat)), pi_okI RX7 e.1 e.2.1 e.2.2.1 e.2.2.2.1 := List.forall_mem_cons.mpr ⟨li_7_3, List.forall_mem_cons.mpr ⟨li_7_28, List.forall_mem_cons.mpr ⟨li_7_32, List.forall_mem_cons.mpr ⟨li_7_43, List.forall_mem_cons.mpr ⟨li_7_47, List.forall_mem_cons.mpr ⟨li_7_51, List.forall_mem_cons.mpr ⟨li_7_58, List.forall_mem_cons.mpr ⟨li_7_62, List.forall_mem_cons.mpr ⟨li_7_65, List.forall_mem_cons.mpr ⟨li_7_69, fun _ h => absurd h List.not_mem_nil⟩⟩⟩⟩⟩⟩⟩⟩⟩⟩
set_option maxRecDepth 100000 in
theorem li_8_3 : pi_okI RX8 3 4 0 0 := List.mem_of_getElem? (i := 311) (by decide +kernel)
set_option maxRecDepth 100000 in
theorem li_8_27 : pi_okI RX8 27 2 80 0 := ⟨mn_80, by decide +kernel, by decide +kernel, List.mem_of_getElem? (i := 1046) (by decide +kernel)⟩
set_option maxRecDepth 100000 in
theorem li_8_32 : pi_okI RX8 32 2 97 1 := ⟨mn_97, by decide +kernel, by decide +kernel, List.mem_of_getElem? (i := 1047) (by decide +kernel)⟩
set_option maxRecDepth 100000 in
theorem li_8_38 : pi_okI RX8 38 2 89 1 := ⟨mn_89, by decide +kernel, by decide +kernel, List.mem_of_getElem? (i := 1048) (by decide +kernel)⟩
set_option maxRecDepth 100000 in
theorem li_8_45 : pi_okI RX8 45 2 103 1 := ⟨mn_103, by decide +kernel, by decide +kernel, List.mem_of_getElem? (i := 1057) (by decide +kernel)⟩
set_option maxRecDepth 100000 in
theorem li_8_48 : pi_okI RX8 48 2 90 1 := ⟨mn_90, by decide +kernel, by decide +kernel, List.mem_of_getElem? (i := 1052) (by decide +kernel)⟩
set_option maxRecDepth 100000 in
theorem li_8_54 : pi_okI RX8 54 2 98 0 := ⟨mn_98, by decide +kernel, by decide +kernel, List.mem_of_getElem? (i := 1058) (by decide +kernel)⟩
set_option maxRecDepth 100000 in
theorem li_8_57 : pi_okI RX8 57 2 82 3 := ⟨mn_82, by decide +kernel, by decide +kernel, List.mem_of_getElem? (i := 1064) (by decide +kernel)⟩
set_option maxRecDepth 100000 in
theorem li_8_61 : pi_okI RX8 61 2 104 1 := ⟨mn_104, by decide +kernel, by decide +kernel, List.mem_of_getElem? (i := 1056) (by decide +kernel)⟩
set_option maxRecDepth 100000 in
theorem li_8_65 : pi_okI RX8 65 2 105 1 := ⟨mn_105, by decide +kernel, by decide +kernel, List.mem_of_getElem? (i := 1059) (by decide +kernel)⟩
set_option maxRecDepth 100000 in
theorem li_8_68 : pi_okI RX8 68 2 91 1 := ⟨mn_91, by decide +kernel, by decide +kernel, List.mem_of_getElem? (i := 1060) (by decide +kernel)⟩
set_option maxRecDepth 100000 in
theorem li_8_73 : pi_okI RX8 73 2 92 2 := ⟨mn_92, by decide +kernel, by decide +kernel, List.mem_of_getElem? (i := 1069) (by decide +kernel)⟩
set_option maxRecDepth 100000 in
theorem li_8_77 : pi_okI RX8 77 2 93 1 := ⟨mn_93, by decide +kernel, by decide +kernel, List.mem_of_getElem? (i := 1074) (by decide +kernel)⟩
set_option maxRecDepth 100000 in
theorem li_8_80 : pi_okI RX8 80 2 108 2 := ⟨mn_108, by decide +kernel, by decide +kernel, List.mem_of_getElem? (i := 1073) (by decide +kernel)⟩
theorem li_a8 : ∀ e ∈ ([(3, 4, 0, 0, 311), (27, 2, 80, 0, 1046), (32, 2, 97, 1, 1047), (38, 2, 89, 1, 1048), (45, 2, 103, 1, 1057), (48, 2, 90, 1, 1052), (54, 2, 98, 0, 1058), (57, 2, 82, 3, 1064), (61, 2, 104, 1, 1056), (65, 2, 105, 1, 1059), (68, 2, 91, 1, 1060), (73, 2, 92, 2, 1069), (77, 2, 93, 1, 1074), (80, 2, 108, 2, 1073)] : List (Nat × Nat × Nat × Nat × Nat)), pi_okI RX8 e.1 e.2.1 e.2.2.1 e.2.2.2.1 := List.forall_mem_cons.mpr ⟨li_8_3, List.forall_mem_cons.mpr ⟨li_8_27, List.forall_mem_cons.mpr ⟨li_8_32, List.forall_mem_cons.mpr ⟨li_8_38, List.forall_mem_cons.mpr ⟨li_8_45, List.forall_mem_cons.mpr ⟨li_8_48, List.forall_mem_cons.mpr ⟨li_8_54, List.forall_mem_cons.mpr ⟨li_8_57, List.forall_mem_cons.mpr ⟨li_8_61, List.forall_mem_cons.mpr ⟨li_8_65, List.forall_mem_cons.mpr ⟨li_8_68, List.forall_mem_cons.mpr ⟨li_8_73, List.forall_mem_cons.mpr ⟨li_8_77, List.forall_mem_cons.mpr ⟨li_8_80, fun _ h => absurd h List.not_mem_nil⟩⟩⟩⟩⟩⟩⟩⟩⟩⟩⟩⟩⟩⟩
set_option maxRecDepth 100000 in
theorem li_9_3 : pi_okI RX9 3 4 0 0 := List.mem_of_getElem? (i := 117) (by decide +kernel)
set_option maxRecDepth 100000 in
theorem li_9_21 : pi_okI RX9 21 6 0 0 := List.mem_of_getElem? (i := 119) (by decide +kernel)
set_option maxRecDepth 100000 in
theorem li_9_27 : pi_okI RX9 27 7 0 1 := List.mem_of_getElem? (i := 129) (by decide +kernel)
set_option maxRecDepth 100000 in
theorem li_9_49 : pi_okI RX9 49 2 98 0 := ⟨mn_98, by decide +kernel, by decide +kernel, List.mem_of_getElem? (i := 487) (by decide +kernel)⟩
set_option maxRecDepth 100000 in
theorem li_9_52 : pi_okI RX9 52 2 96 1 := ⟨mn_96, by decide +kernel, by decide +kernel, List.mem_of_getElem? (i := 491) (by decide +kernel)⟩
set_option maxRecDepth 100000 in
theorem li_9_69 : pi_okI RX9 69 8 0 2 := List.mem_of_getElem? (i := 495) (by decide +kernel)
set_option maxRecDepth 100000 in
theorem li_9_78 : pi_okI RX9 78 0 101 1 := ⟨mn_101, by decide +kernel, by decide +kernel, List.mem_of_getElem? (i := 498) (by decide +kernel)⟩
set_option maxRecDepth 100000 in
theorem li_9_82 : pi_okI RX9 82 0 102 1 := ⟨mn_102, by decide +kernel, by decide +kernel, List.mem_of_getElem? (i := 501) (by decide +kernel)⟩
set_option maxRecDepth 100000 in
theorem li_9_85 : pi_okI RX9 85 2 99 1 := ⟨mn_99, by decide +kernel, by decide +kernel, List.mem_of_getElem? (i := 504) (by decide +kernel)⟩
set_option maxRecDepth 100000 in
theorem li_9_89 : pi_okI RX9 89 2 100 1 := ⟨mn_100, by decide +kernel, by decide +kernel, List.mem_of_getElem? (i := 508) (by decide +kernel)⟩
set_option maxRecDepth 100000 in
theorem li_9_93 : pi_okI RX9 93 2 104 1 := ⟨mn_104, by decide +kernel, by decide +kernel, List.mem_of_getElem? (i := 624) (by decide +kernel)⟩
set_option maxRecDepth 100000 in
theorem li_9_97 : pi_okI RX9 97 2 103 1 := ⟨mn_103, by decide +kernel, by decide +kernel, List.mem_of_getElem? (i := 561) (by decide +kernel)⟩
set_option maxRecDepth 100000 in
theorem li_9_100 : pi_okI RX9 100 2 107 0 := ⟨mn_107, by decide +kernel, by decide +kernel, List.mem_of_getElem? (i := 560) (by decide +kernel)⟩
set_option maxRecDepth 100000 in
theorem li_9_104 : pi_okI RX9 104 2 13 2 := ⟨mn_13, by decide +kernel, by decide +kernel, List.mem_of_getElem? (i := 562) (by decide +kernel)⟩
set_option maxRecDepth 100000 in
theorem li_9_110 : pi_okI RX9 110 2 108 2 := ⟨mn_108, by decide +kernel, by decide +kernel, List.mem_of_getElem? (i := 556) (by decide +kernel)⟩
theorem li_a9 : ∀ e ∈ ([(3, 4, 0, 0, 117), (21, 6, 0, 0, 119), (27, 7, 0, 1, 129), (49, 2, 98, 0, 487), (52, 2, 96, 1, 491), (69, 8, 0, 2, 495), (78, 0, 101, 1, 498), (82, 0, 102, 1, 501), (85, 2, 99, 1, 504), (89, 2, 100, 1, 508), (93, 2, 104, 1, 624), (97, 2, 103, 1, 561), (100, 2, 107, 0, 560), (104, 2, 13, 2, 562), (110, 2, 108, 2, 556)] : List (Nat × Nat × Nat × Nat × Nat)), pi_okI RX9 e.1 e.2.1 e.2.2.1 e.2.2.2.1 := List.forall_mem_cons.mpr ⟨li_9_3, List.forall_mem_cons.mpr ⟨li_9_21, List.forall_mem_cons.mpr ⟨li_9_27, List.forall_mem_cons.mpr ⟨li_9_49, List.forall_mem_cons.mpr ⟨li_9_52, List.forall_mem_cons.mpr ⟨li_9_69, List.forall_mem_cons.mpr ⟨li_9_78, List.forall_mem_cons.mpr ⟨li_9_82, List.forall_mem_cons.mpr ⟨li_9_85, List.forall_mem_cons.mpr ⟨li_9_89, List.forall_mem_cons.mpr ⟨li_9_93, List.forall_mem_cons.mpr ⟨li_9_97, List.forall_mem_cons.mpr ⟨li_9_100, List.forall_mem_cons.mpr ⟨li_9_104, List.forall_mem_cons.mpr ⟨li_9_110, fun _ h => absurd h List.not_mem_nil⟩⟩⟩⟩⟩⟩⟩⟩⟩⟩⟩⟩⟩⟩⟩
set_option maxRecDepth 100000 in
theorem li_10_3 : pi_okI RX10 3 4 0 0 := List.mem_of_getElem? (i := 109) (by decide +kernel)
set_option maxRecDepth 100000 in
theorem li_10_11 : pi_okI RX10 11 3 94 0 := ⟨mn_94, by decide +kernel, by decide +kernel, List.mem_of_getElem? (i := 114) (by decide +kernel)⟩
set_option maxRecDepth 100000 in
theorem li_10_18 : pi_okI RX10 18 3 9 0 := ⟨mn_9, by decide +kernel, by decide +kernel, List.mem_of_getElem? (i := 220) (by decide +kernel)⟩
set_option maxRecDepth 100000 in
theorem li_10_28 : pi_okI RX10 28 3 20 2 := ⟨mn_20, by decide +kernel, by decide +kernel, List.mem_of_getElem? (i := 237) (by decide +kernel)⟩
set_option maxRecDepth 100000 in
theorem li_10_41 : pi_okI RX10 41 3 35 1 := ⟨mn_35, by decide +kernel, by decide +kernel, List.mem_of_getElem? (i := 250) (by decide +kernel)⟩
set_option maxRecDepth 100000 in
theorem li_10_53 : pi_okI RX10 53 3 70 0 := ⟨mn_70, by decide +kernel, by decide +kernel, List.mem_of_getElem? (i := 269) (by decide +kernel)⟩
set_option maxRecDepth 100000 in
theorem li_10_60 : pi_okI RX10 60 3 79 0 := ⟨mn_79, by decide +kernel, by decide +kernel, List.mem_of_getElem? (i := 285) (by decide +kernel)⟩
set_option maxRecDepth 100000 in
theorem li_10_70 : pi_okI RX10 70 3 87 3 := ⟨mn_87, by decide +kernel, by decide +kernel, List.mem_of_getElem? (i := 308) (by decide +kernel)⟩
set_option maxRecDepth 100000 in
theorem li_10_79 : pi_okI RX10 79 3 0 2 := ⟨mn_0, by decide +kernel, by decide +kernel, List.mem_of_getElem? (i := 327) (by decide +kernel)⟩
set_option maxRecDepth 100000 in
theorem li_10_86 : pi_okI RX10 86 3 74 1 := ⟨mn_74, by decide +kernel, by decide +kernel, List.mem_of_getElem? (i := 356) (by decide +kernel)⟩
set_option maxRecDepth 100000 in
theorem li_10_96 : pi_okI RX10 96 3 6 0 := ⟨mn_6, by decide +kernel, by decide +kernel, List.mem_of_getElem? (i := 377) (by decide +kernel)⟩
set_option maxRecDepth 100000 in
theorem li_10_121 : pi_okI RX10 121 2 95 1 := ⟨mn_95, by decide +kernel, by decide +kernel, List.mem_of_getElem? (i := 463) (by decide +kernel)⟩
set_option maxRecDepth 100000 in
theorem li_10_125 : pi_okI RX10 125 2 21 0 := ⟨mn_21, by decide +kernel, by decide +kernel, List.mem_of_getElem? (i := 475) (by decide +kernel)⟩
set_option maxRecDepth 100000 in
theorem li_10_132 : pi_okI RX10 132 2 11 1 := ⟨mn_11, by decide +kernel, by decide +kernel, List.mem_of_getElem? (i := 625) (by decide +kernel)⟩
set_option maxRecDepth 100000 in
theorem li_10_136 : pi_okI RX10 136 2 37 0 := ⟨mn_37, by decide +kernel, by decide +kernel, List.mem_of_getElem? (i := 638) (by decide +kernel)⟩
set_option maxRecDepth 100000 in
theorem li_10_139 : pi_okI RX10 139 2 80 0 := ⟨mn_80, by decide +kernel, by decide +kernel, List.mem_of_getElem? (i := 656) (by decide +kernel)⟩
set_option maxRecDepth 100000 in
theorem li_10_142 : pi_okI RX10 142 2 71 0 := ⟨mn_71, by decide +kernel, by decide +kernel, List.mem_of_getElem? (i := 660) (by decide +kernel)⟩
set_option maxRecDepth 100000 in
theorem li_10_148 : pi_okI RX10 148 2 152 2 := ⟨mn_152, by decide +kernel, by decide +kernel, List.mem_of_getElem? (i := 672) (by decide +kernel)⟩
set_option maxRecDepth 100000 in
theorem li_10_152 : pi_okI RX10 152 0 159 2 := ⟨mn_159, by decide +kernel, by decide +kernel, List.mem_of_getElem? (i := 676) (by decide +kernel)⟩
set_option maxRecDepth 100000 in
theorem li_10_156 : pi_okI RX10 156 2 68 1 := ⟨mn_68, by decide +kernel, by decide +kernel, List.mem_of_getElem? (i := 677) (by decide +kernel)⟩
set_option maxRecDepth 100000 in
theorem li_10_166 : pi_okI RX10 166 2 67 1 := ⟨mn_67, by decide +kernel, by decide +kernel, List.mem_of_getElem? (i := 689) (by decide +kernel)⟩
set_option maxRecDepth 100000 in
theorem li_10_169 : pi_okI RX10 169 2 38 0 := ⟨mn_38, by decide +kernel, by decide +kernel, List.mem_of_getElem? (i := 697) (by decide +kernel)⟩
set_option maxRecDepth 100000 in
theorem li_10_172 : pi_okI RX10 172 2 64 0 := ⟨mn_64, by decide +kernel, by decide +kernel, List.mem_of_getElem? (i := 701) (by decide +kernel)⟩
set_option maxRecDepth 100000 in
theorem li_10_175 : pi_okI RX10 175 2 65 0 := ⟨mn_65, by decide +kernel, by decide +kernel, List.mem_of_getElem? (i := 711) (by decide +kernel)⟩
set_option maxRecDepth 100000 in
theorem li_10_178 : pi_okI RX10 178 2 66 0 := ⟨mn_66, by decide +kernel, by decide +kernel, List.mem_of_getElem? (i := 715) (by decide +kernel)⟩
set_option maxRecDepth 100000 in
theorem li_10_181 : pi_okI RX10 181 2 62 0 := ⟨mn_62, by decide +kernel, by decide +kernel, List.mem_of_getElem? (i := 719) (by decide +kernel)⟩
set_option maxRecDepth 100000 in
theorem li_10_184 : pi_okI RX10 184 2 156 3 := ⟨mn_156, by decide +kernel, by decide +kernel, List.mem_of_getElem? (i := 744) (by decide +kernel)⟩
set_option maxRecDepth 100000 in
theorem li_10_188 : pi_okI RX10 188 8 0 2 := List.mem_of_getElem? (i := 632) (by decide +kernel)
set_option maxRecDepth 100000 in
theorem li_10_194 : pi_okI RX10 194 2 72 1 := ⟨mn_72, by decide +kernel, by decide +kernel, List.mem_of_getElem? (i := 772) (by decide +kernel)⟩
set_option maxRecDepth 100000 in
theorem li_10_197 : pi_okI RX10 197 2 49 1 := ⟨mn_49, by decide +kernel, by decide +kernel, List.mem_of_getElem? (i := 814) (by decide +kernel)⟩
set_option maxRecDepth 100000 in
theorem li_10_200 : pi_okI RX10 200 2 73 1 := ⟨mn_73, by decide +kernel, by decide +kernel, List.mem_of_getElem? (i := 830) (by decide +kernel)⟩
set_option maxRecDepth 100000 in
theorem li_10_204 : pi_okI RX10 204 2 154 2 := ⟨mn_154, by decide +kernel, by decide +kernel, List.mem_of_getElem? (i := 838) (by decide +kernel)⟩
set_option maxRecDepth 100000 in
theorem li_10_207 : pi_okI RX10 207 2 39 2 := ⟨mn_39, by decide +kernel, by decide +kernel, List.mem_of_getElem? (i := 842) (by decide +kernel)⟩
set_option maxRecDepth 100000 in
theorem li_10_210 : pi_okI RX10 210 2 55 2 := ⟨mn_55, by decide +kernel, by decide +kernel, List.mem_of_getElem? (i := 847) (by decide +kernel)⟩
set_option maxRecDepth 100000 in
theorem li_10_213 : pi_okI RX10 213 2 59 1 := ⟨mn_59, by decide +kernel, by decide +kernel, List.mem_of_getElem? (i := 852) (by decide +kernel)⟩
set_option maxRecDepth 100000 in
theorem li_10_216 : pi_okI RX10 216 2 60 1 := ⟨mn_60, by decide +kernel, by decide +kernel, List.mem_of_getElem? (i := 857) (by decide +kernel)⟩
set_option maxRecDepth 100000 in
theorem li_10_219 : pi_okI RX10 219 2 58 1 := ⟨mn_58, by decide +kernel, by decide +kernel, List.mem_of_getElem? (i := 862) (by decide +kernel)⟩
set_option maxRecDepth 100000 in
theorem li_10_222 : pi_okI RX10 222 2 61 1 := ⟨mn_61, by decide +kernel, by decide +kernel, List.mem_of_getElem? (i := 870) (by decide +kernel)⟩
set_option maxRecDepth 100000 in
theorem li_10_225 : pi_okI RX10 225 2 40 2 := ⟨mn_40, by decide +kernel, by decide +kernel, List.mem_of_getElem? (i := 878) (by decide +kernel)⟩
set_option maxRecDepth 100000 in
theorem li_10_228 : pi_okI RX10 228 2 153 2 := ⟨mn_153, by decide +kernel, by decide +kernel, List.mem_of_getElem? (i := 886) (by decide +kernel)⟩
set_option maxRecDepth 100000 in
theorem li_10_231 : pi_okI RX10 231 2 69 1 := ⟨mn_69, by decide +kernel, by decide +kernel, List.mem_of_getElem? (i := 890) (by decide +kernel)⟩
set_option maxRecDepth 100000 in
theorem li_10_234 : pi_okI RX10 234 2 75 3 := ⟨mn_75, by decide +kernel, by decide +kernel, List.mem_of_getElem? (i := 891) (by decide +kernel)⟩
set_option maxRecDepth 100000 in
theorem li_10_243 : pi_okI RX10 243 2 56 1 := ⟨mn_56, by decide +kernel, by decide +kernel, List.mem_of_getElem? (i := 916) (by decide +kernel)⟩
set_option maxRecDepth 100000 in
theorem li_10_246 : pi_okI RX10 246 2 16 2 := ⟨mn_16, by decide +kernel, by decide +kernel, List.mem_of_getElem? (i := 921) (by decide +kernel)⟩
set_option maxRecDepth 100000 in
theorem li_10_249 : pi_okI RX10 249 2 151 1 := ⟨mn_151, by decide +kernel, by decide +kernel, List.mem_of_getElem? (i := 922) (by decide +kernel)⟩
set_option maxRecDepth 100000 in
theorem li_10_252 : pi_okI RX10 252 0 285 1 := ⟨mn_285, by decide +kernel, by decide +kernel, List.mem_of_getElem? (i := 926) (by decide +kernel)⟩
set_option maxRecDepth 100000 in
theorem li_10_257 : pi_okI RX10 257 2 17 3 := ⟨mn_17, by decide +kernel, by decide +kernel, List.mem_of_getElem? (i := 927) (by decide +kernel)⟩
set_option maxRecDepth 100000 in
theorem li_10_261 : pi_okI RX10 261 2 157 2 := ⟨mn_157, by decide +kernel, by decide +kernel, List.mem_of_getElem? (i := 935) (by decide +kernel)⟩
set_option maxRecDepth 100000 in
theorem li_10_264 : pi_okI RX10 264 2 18 1 := ⟨mn_18, by decide +kernel, by decide +kernel, List.mem_of_getElem? (i := 952) (by decide +kernel)⟩
set_option maxRecDepth 100000 in
theorem li_10_267 : pi_okI RX10 267 2 36 1 := ⟨mn_36, by decide +kernel, by decide +kernel, List.mem_of_getElem? (i := 939) (by decide +kernel)⟩
set_option maxRecDepth 100000 in
theorem li_10_270 : pi_okI RX10 270 2 19 1 := ⟨mn_19, by decide +kernel, by decide +kernel, List.mem_of_getElem? (i := 968) (by decide +kernel)⟩
set_option maxRecDepth 100000 in
theorem li_10_273 : pi_okI RX10 273 2 52 2 := ⟨mn_52, by decide +kernel, by decide +kernel, List.mem_of_getElem? (i := 976) (by decide +kernel)⟩
set_option maxRecDepth 100000 in
theorem li_10_277 : pi_okI RX10 277 2 1 0 := ⟨mn_1, by decide +kernel, by decide +kernel, List.mem_of_getElem? (i := 1000) (by decide +kernel)⟩
set_option maxRecDepth 100000 in
theorem li_10_280 : pi_okI RX10 280 2 158 1 := ⟨mn_158, by decide +kernel, by decide +kernel, List.mem_of_getElem? (i := 1029) (by decide +kernel)⟩
set_option maxRecDepth 100000 in
theorem li_10_284 : pi_okI RX10 284 2 88 0 := ⟨mn_88, by decide +kernel, by decide +kernel, List.mem_of_getElem? (i := 1042) (by decide +kernel)⟩
set_option maxRecDepth 100000 in
theorem li_10_287 : pi_okI RX10 287 2 81 1 := ⟨mn_81, by decide +kernel, by decide +kernel, List.mem_of_getElem? (i := 1078) (by decide +kernel)⟩
set_option maxRecDepth 100000 in
theorem li_10_293 : pi_okI RX10 293 2 83 1 := ⟨mn_83, by decide +kernel, by decide +kernel, List.mem_of_getElem? (i := 1087) (by decide +kernel)⟩
set_option maxRecDepth 100000 in
theorem li_10_296 : pi_okI RX10 296 2 155 1 := ⟨mn_155, by decide +kernel, by decide +kernel, List.mem_of_getElem? (i := 1111) (by decide +kernel)⟩
set_option maxRecDepth 100000 in
theorem li_10_300 : pi_okI RX10 300 2 7 3 := ⟨mn_7, by decide +kernel, by decide +kernel, List.mem_of_getElem? (i := 1115) (by decide +kernel)⟩
set_option maxRecDepth 100000 in
theorem li_10_307 : pi_okI RX10 307 2 8 3 := ⟨mn_8, by decide +kernel, by decide +kernel, List.mem_of_getElem? (i := 1126) (by decide +kernel)⟩
set_option maxRecDepth 100000 in
theorem li_10_310 : pi_okI RX10 310 2 43 3 := ⟨mn_43, by decide +kernel, by decide +kernel, List.mem_of_getElem? (i := 748) (by decide +kernel)⟩
set_option maxRecDepth 100000 in
theorem li_10_313 : pi_okI RX10 313 2 46 3 := ⟨mn_46, by decide +kernel, by decide +kernel, List.mem_of_getElem? (i := 778) (by decide +kernel)⟩
set_option maxRecDepth 100000 in
theorem li_10_329 : pi_okI RX10 329 0 160 3 := ⟨mn_160, by decide +kernel, by decide +kernel, List.mem_of_getElem? (i := 1033) (by decide +kernel)⟩
set_option maxRecDepth 100000 in
theorem li_10_333 : pi_okI RX10 333 5 0 5 := List.mem_of_getElem? (i := 633) (by decide +kernel)
theorem li_a10 : ∀ e ∈ ([(3, 4, 0, 0, 109), (11, 3, 94, 0, 114), (18, 3, 9, 0, 220), (28, 3, 20, 2, 237), (41, 3, 35, 1, 250), (53, 3, 70, 0, 269), (60, 3, 79, 0, 285), (70, 3, 87, 3, 308), (79, 3, 0, 2, 327), (86, 3, 74, 1, 356), (96, 3, 6, 0, 377), (121, 2, 95, 1, 463), (125, 2, 21, 0, 475), (132, 2, 11, 1, 625), (136, 2, 37, 0, 638), (139, 2, 80, 0, 656), (142, 2, 71, 0, 660), (148, 2, 152, 2, 672), (152, 0, 159, 2, 676), (156, 2, 68, 1, 677), (166, 2, 67, 1, 689), (169, 2, 38, 0, 697), (172, 2, 64, 0, 701), (175, 2, 65, 0, 711), (178, 2, 66, 0, 715), (181, 2, 62, 0, 719), (184, 2, 156, 3, 744), (188, 8, 0, 2, 632), (194, 2, 72, 1, 772), (197, 2, 49, 1, 814), (200, 2, 73, 1, 830), (204, 2, 154, 2, 838), (207, 2, 39, 2, 842), (210, 2, 55, 2, 847), (213, 2, 59, 1, 852), (216, 2, 60, 1, 857), (219, 2, 58, 1, 862), (222, 2, 61, 1, 870), (225, 2, 40, 2, 878), (228, 2, 153, 2, 886), (231, 2, 69, 1, 890), (234, 2, 75, 3, 891), (243, 2, 56, 1, 916), (246, 2, 16, 2, 921), (249, 2, 151, 1, 922), (252, 0, 285, 1, 926), (257, 2, 17, 3, 927), (261, 2, 157, 2, 935), (264, 2, 18, 1, 952), (267, 2, 36, 1, 939), (270, 2, 19, 1, 968), (273, 2, 52, 2, 976), (277, 2, 1, 0, 1000), (280, 2, 158, 1, 1029), (284, 2, 88, 0, 1042), (287, 2, 81, 1, 1078), (293, 2, 83, 1, 1087), (296, 2, 155, 1, 1111), (300, 2, 7, 3, 1115), (307, 2, 8, 3, 1126), (310, 2, 43, 3, 748), (313, 2, 46, 3, 778), (329, 0, 160, 3, 1033), (333, 5, 0, 5, 633)] : List (Nat × Nat × Nat × Nat × Nat)), pi_okI RX10 e.1 e.2.1 e.2.2.1 e.2.2.2.1 := List.forall_mem_cons.mpr ⟨li_10_3, List.forall_mem_cons.mpr ⟨li_10_11, List.forall_mem_cons.mpr ⟨li_10_18, List.forall_mem_cons.mpr ⟨li_10_28, List.forall_mem_cons.mpr ⟨li_10_41, List.forall_mem_cons.mpr ⟨li_10_53, List.forall_mem_cons.mpr ⟨li_10_60, List.forall_mem_cons.mpr ⟨li_10_70, List.forall_mem_cons.mpr ⟨li_10_79, List.forall_mem_cons.mpr ⟨li_10_86, List.forall_mem_cons.mpr ⟨li_10_96, List.forall_mem_cons.mpr ⟨li_10_121, List.forall_mem_cons.mpr ⟨li_10_125, List.forall_mem_cons.mpr ⟨li_10_132, List.forall_mem_cons.mpr ⟨li_10_136, List.forall_mem_cons.mpr ⟨li_10_139, List.forall_mem_cons.mpr ⟨li_10_142, List.forall_mem_cons.mpr ⟨li_10_148, List.forall_mem_cons.mpr ⟨li_10_152, List.forall_mem_cons.mpr ⟨li_10_156, List.forall_mem_cons.mpr ⟨li_10_166, List.forall_mem_cons.mpr ⟨li_10_169, List.forall_mem_cons.mpr ⟨li_10_172, List.forall_mem_cons.mpr ⟨li_10_175, List.forall_mem_cons.mpr ⟨li_10_178, List.forall_mem_cons.mpr ⟨li_10_181, List.forall_mem_cons.mpr ⟨li_10_184, List.forall_mem_cons.mpr ⟨li_10_188, List.forall_mem_cons.mpr ⟨li_10_194, List.forall_mem_cons.mpr ⟨li_10_197, List.forall_mem_cons.mpr ⟨li_10_200, List.forall_mem_cons.mpr ⟨li_10_204, List.forall_mem_cons.mpr ⟨li_10_207, List.forall_mem_cons.mpr ⟨li_10_210, List.forall_mem_cons.mpr ⟨li_10_213, List.forall_mem_cons.mpr ⟨li_10_216, List.forall_mem_cons.mpr ⟨li_10_219, List.forall_mem_cons.mpr ⟨li_10_222, List.forall_mem_cons.mpr ⟨li_10_225, List.forall_mem_cons.mpr ⟨li_10_228, List.forall_mem_cons.mpr ⟨li_10_231, List.forall_mem_cons.mpr ⟨li_10_234, List.forall_mem_cons.mpr ⟨li_10_243, List.forall_mem_cons.mpr ⟨li_10_246, List.forall_mem_cons.mpr ⟨li_10_249, List.forall_mem_cons.mpr ⟨li_10_252, List.forall_mem_cons.mpr ⟨li_10_257, List.forall_mem_cons.mpr ⟨li_10_261, List.forall_mem_cons.mpr ⟨li_10_264, List.forall_mem_cons.mpr ⟨li_10_267, List.forall_mem_cons.mpr ⟨li_10_270, List.forall_mem_cons.mpr ⟨li_10_273, List.forall_mem_cons.mpr ⟨li_10_277, List.forall_mem_cons.mpr ⟨li_10_280, List.forall_mem_cons.mpr ⟨li_10_284, List.forall_mem_cons.mpr ⟨li_10_287, List.forall_mem_cons.mpr ⟨li_10_293, List.forall_mem_cons.mpr ⟨li_10_296, List.forall_mem_cons.mpr ⟨li_10_300, List.forall_mem_cons.mpr ⟨li_10_307, List.forall_mem_cons.mpr ⟨li_10_310, List.forall_mem_cons.mpr ⟨li_10_313, List.forall_mem_cons.mpr ⟨li_10_329, List.forall_mem_cons.mpr ⟨li_10_333, fun _ h => absurd h List.not_mem_nil⟩⟩⟩⟩⟩⟩⟩⟩⟩⟩⟩⟩⟩⟩⟩⟩⟩⟩⟩⟩⟩⟩⟩⟩⟩⟩⟩⟩⟩⟩⟩⟩⟩⟩⟩⟩⟩⟩⟩⟩⟩⟩⟩⟩⟩⟩⟩⟩⟩⟩⟩⟩⟩⟩⟩⟩⟩⟩⟩⟩⟩⟩⟩⟩
set_option maxRecDepth 100000 in
theorem li_11_10 : pi_okI RX11 10 2 164 1 := ⟨mn_164, by decide +kernel, by decide +kernel, List.mem_of_getElem? (i := 1204) (by decide +kernel)⟩
set_option maxRecDepth 100000 in
theorem li_11_27 : pi_okI RX11 27 4 0 0 := List.mem_of_getElem? (i := 1217) (by decide +kernel)
set_option maxRecDepth 100000 in
theorem li_11_142 : pi_okI RX11 142 2 173 0 := ⟨mn_173, by decide +kernel, by decide +kernel, List.mem_of_getElem? (i := 1396) (by decide +kernel)⟩
set_option maxRecDepth 100000 in
theorem li_11_155 : pi_okI RX11 155 0 174 1 := ⟨mn_174, by decide +kernel, by decide +kernel, List.mem_of_getElem? (i := 1400) (by decide +kernel)⟩
set_option maxRecDepth 100000 in
theorem li_11_159 : pi_okI RX11 159 0 175 1 := ⟨mn_175, by decide +kernel, by decide +kernel, List.mem_of_getElem? (i := 1403) (by decide +kernel)⟩
set_option maxRecDepth 100000 in
theorem li_11_175 : pi_okI RX11 175 2 179 1 := ⟨mn_179, by decide +kernel, by decide +kernel, List.mem_of_getElem? (i := 1460) (by decide +kernel)⟩
set_option maxRecDepth 100000 in
theorem li_11_178 : pi_okI RX11 178 2 177 1 := ⟨mn_177, by decide +kernel, by decide +kernel, List.mem_of_getElem? (i := 1414) (by decide +kernel)⟩
set_option maxRecDepth 100000 in
theorem li_11_181 : pi_okI RX11 181 2 176 0 := ⟨mn_176, by decide +kernel, by decide +kernel, List.mem_of_getElem? (i := 1392) (by decide +kernel)⟩
set_option maxRecDepth 100000 in
theorem li_11_184 : pi_okI RX11 184 0 167 3 := ⟨mn_167, by decide +kernel, by decide +kernel, List.mem_of_getElem? (i := 1457) (by decide +kernel)⟩
set_option maxRecDepth 100000 in
theorem li_11_191 : pi_okI RX11 191 2 182 2 := ⟨mn_182, by decide +kernel, by decide +kernel, List.mem_of_getElem? (i := 1453) (by decide +kernel)⟩
set_option maxRecDepth 100000 in
theorem li_11_195 : pi_okI RX11 195 2 181 0 := ⟨mn_181, by decide +kernel, by decide +kernel, List.mem_of_getElem? (i := 1422) (by decide +kernel)⟩
set_option maxRecDepth 100000 in
theorem li_11_199 : pi_okI RX11 199 2 184 2 := ⟨mn_184, by decide +kernel, by decide +kernel, List.mem_of_getElem? (i := 1426) (by decide +kernel)⟩
set_option maxRecDepth 100000 in
theorem li_11_203 : pi_okI RX11 203 2 186 2 := ⟨mn_186, by decide +kernel, by decide +kernel, List.mem_of_getElem? (i := 1438) (by decide +kernel)⟩
set_option maxRecDepth 100000 in
theorem li_11_206 : pi_okI RX11 206 2 178 1 := ⟨mn_178, by decide +kernel, by decide +kernel, List.mem_of_getElem? (i := 1410) (by decide +kernel)⟩
set_option maxRecDepth 100000 in
theorem li_11_210 : pi_okI RX11 210 2 185 1 := ⟨mn_185, by decide +kernel, by decide +kernel, List.mem_of_getElem? (i := 1418) (by decide +kernel)⟩
set_option maxRecDepth 100000 in
theorem li_11_213 : pi_okI RX11 213 2 189 0 := ⟨mn_189, by decide +kernel, by decide +kernel, List.mem_of_getElem? (i := 1430) (by decide +kernel)⟩
set_option maxRecDepth 100000 in
theorem li_11_216 : pi_okI RX11 216 2 190 1 := ⟨mn_190, by decide +kernel, by decide +kernel, List.mem_of_getElem? (i := 1445) (by decide +kernel)⟩
set_option maxRecDepth 100000 in
theorem li_11_220 : pi_okI RX11 220 2 187 2 := ⟨mn_187, by decide +kernel, by decide +kernel, List.mem_of_getElem? (i := 1434) (by decide +kernel)⟩
set_option maxRecDepth 100000 in
theorem li_11_223 : pi_okI RX11 223 2 183 3 := ⟨mn_183, by decide +kernel, by decide +kernel, List.mem_of_getElem? (i := 1449) (by decide +kernel)⟩
set_option maxRecDepth 100000 in
theorem li_11_226 : pi_okI RX11 226 2 191 0 := ⟨mn_191, by decide +kernel, by decide +kernel, List.mem_of_getElem? (i := 1464) (by decide +kernel)⟩
set_option maxRecDepth 100000 in
theorem li_11_229 : pi_okI RX11 229 0 168 2 := ⟨mn_168, by decide +kernel, by decide +kernel, List.mem_of_getElem? (i := 1442) (by decide +kernel)⟩
set_option maxRecDepth 100000 in
theorem li_11_232 : pi_okI RX11 232 2 166 1 := ⟨mn_166, by decide +kernel, by decide +kernel, List.mem_of_getElem? (i := 1388) (by decide +kernel)⟩
set_option maxRecDepth 100000 in
theorem li_11_238 : pi_okI RX11 238 2 188 0 := ⟨mn_188, by decide +kernel, by decide +kernel, List.mem_of_getElem? (i := 1406) (by decide +kernel)⟩
set_option maxRecDepth 100000 in
theorem li_11_241 : pi_okI RX11 241 2 180 1 := ⟨mn_180, by decide +kernel, by decide +kernel, List.mem_of_getElem? (i := 1468) (by decide +kernel)⟩
set_option maxRecDepth 100000 in
theorem li_11_244 : pi_okI RX11 244 2 201 1 := ⟨mn_201, by decide +kernel, by decide +kernel, List.mem_of_getElem? (i := 1472) (by decide +kernel)⟩
set_option maxRecDepth 100000 in
theorem li_11_250 : pi_okI RX11 250 0 198 2 := ⟨mn_198, by decide +kernel, by decide +kernel, List.mem_of_getElem? (i := 1480) (by decide +kernel)⟩
set_option maxRecDepth 100000 in
theorem li_11_253 : pi_okI RX11 253 0 169 2 := ⟨mn_169, by decide +kernel, by decide +kernel, List.mem_of_getElem? (i := 1483) (by decide +kernel)⟩
set_option maxRecDepth 100000 in
theorem li_11_256 : pi_okI RX11 256 2 199 3 := ⟨mn_199, by decide +kernel, by decide +kernel, List.mem_of_getElem? (i := 1486) (by decide +kernel)⟩
set_option maxRecDepth 100000 in
theorem li_11_260 : pi_okI RX11 260 0 170 2 := ⟨mn_170, by decide +kernel, by decide +kernel, List.mem_of_getElem? (i := 1490) (by decide +kernel)⟩
set_option maxRecDepth 100000 in
theorem li_11_263 : pi_okI RX11 263 2 200 2 := ⟨mn_200, by decide +kernel, by decide +kernel, List.mem_of_getElem? (i := 1476) (by decide +kernel)⟩
set_option maxRecDepth 100000 in
theorem li_11_267 : pi_okI RX11 267 2 202 2 := ⟨mn_202, by decide +kernel, by decide +kernel, List.mem_of_getElem? (i := 1544) (by decide +kernel)⟩
set_option maxRecDepth 100000 in
theorem li_11_270 : pi_okI RX11 270 2 203 2 := ⟨mn_203, by decide +kernel, by decide +kernel, List.mem_of_getElem? (i := 1548) (by decide +kernel)⟩
set_option maxRecDepth 100000 in
theorem li_11_273 : pi_okI RX11 273 2 204 2 := ⟨mn_204, by decide +kernel, by decide +kernel, List.mem_of_getElem? (i := 1540) (by decide +kernel)⟩
set_option maxRecDepth 100000 in
theorem li_11_276 : pi_okI RX11 276 2 205 1 := ⟨mn_205, by decide +kernel, by decide +kernel, List.mem_of_getElem? (i := 1536) (by decide +kernel)⟩
set_option maxRecDepth 100000 in
theorem li_11_280 : pi_okI RX11 280 2 206 1 := ⟨mn_206, by decide +kernel, by decide +kernel, List.mem_of_getElem? (i := 1588) (by decide +kernel)⟩
set_option maxRecDepth 100000 in
theorem li_11_283 : pi_okI RX11 283 2 196 1 := ⟨mn_196, by decide +kernel, by decide +kernel, List.mem_of_getElem? (i := 1501) (by decide +kernel)⟩
set_option maxRecDepth 100000 in
theorem li_11_286 : pi_okI RX11 286 2 197 1 := ⟨mn_197, by decide +kernel, by decide +kernel, List.mem_of_getElem? (i := 1509) (by decide +kernel)⟩
set_option maxRecDepth 100000 in
theorem li_11_289 : pi_okI RX11 289 2 162 1 := ⟨mn_162, by decide +kernel, by decide +kernel, List.mem_of_getElem? (i := 1513) (by decide +kernel)⟩
set_option maxRecDepth 100000 in
theorem li_11_292 : pi_okI RX11 292 2 194 1 := ⟨mn_194, by decide +kernel, by decide +kernel, List.mem_of_getElem? (i := 1521) (by decide +kernel)⟩
set_option maxRecDepth 100000 in
theorem li_11_295 : pi_okI RX11 295 0 171 1 := ⟨mn_171, by decide +kernel, by decide +kernel, List.mem_of_getElem? (i := 1529) (by decide +kernel)⟩
set_option maxRecDepth 100000 in
theorem li_11_298 : pi_okI RX11 298 2 212 0 := ⟨mn_212, by decide +kernel, by decide +kernel, List.mem_of_getElem? (i := 1532) (by decide +kernel)⟩
set_option maxRecDepth 100000 in
theorem li_11_301 : pi_okI RX11 301 2 215 2 := ⟨mn_215, by decide +kernel, by decide +kernel, List.mem_of_getElem? (i := 1568) (by decide +kernel)⟩
set_option maxRecDepth 100000 in
theorem li_11_304 : pi_okI RX11 304 2 207 1 := ⟨mn_207, by decide +kernel, by decide +kernel, List.mem_of_getElem? (i := 1584) (by decide +kernel)⟩
set_option maxRecDepth 100000 in
theorem li_11_307 : pi_okI RX11 307 2 208 1 := ⟨mn_208, by decide +kernel, by decide +kernel, List.mem_of_getElem? (i := 1616) (by decide +kernel)⟩
set_option maxRecDepth 100000 in
theorem li_11_310 : pi_okI RX11 310 2 227 1 := ⟨mn_227, by decide +kernel, by decide +kernel, List.mem_of_getElem? (i := 1660) (by decide +kernel)⟩
set_option maxRecDepth 100000 in
theorem li_11_313 : pi_okI RX11 313 2 228 0 := ⟨mn_228, by decide +kernel, by decide +kernel, List.mem_of_getElem? (i := 1656) (by decide +kernel)⟩
set_option maxRecDepth 100000 in
theorem li_11_316 : pi_okI RX11 316 2 214 2 := ⟨mn_214, by decide +kernel, by decide +kernel, List.mem_of_getElem? (i := 1556) (by decide +kernel)⟩
set_option maxRecDepth 100000 in
theorem li_11_319 : pi_okI RX11 319 2 237 0 := ⟨mn_237, by decide +kernel, by decide +kernel, List.mem_of_getElem? (i := 1560) (by decide +kernel)⟩
set_option maxRecDepth 100000 in
theorem li_11_322 : pi_okI RX11 322 2 216 2 := ⟨mn_216, by decide +kernel, by decide +kernel, List.mem_of_getElem? (i := 1564) (by decide +kernel)⟩
set_option maxRecDepth 100000 in
theorem li_11_325 : pi_okI RX11 325 2 195 1 := ⟨mn_195, by decide +kernel, by decide +kernel, List.mem_of_getElem? (i := 1576) (by decide +kernel)⟩
set_option maxRecDepth 100000 in
theorem li_11_328 : pi_okI RX11 328 2 217 2 := ⟨mn_217, by decide +kernel, by decide +kernel, List.mem_of_getElem? (i := 1580) (by decide +kernel)⟩
set_option maxRecDepth 100000 in
theorem li_11_331 : pi_okI RX11 331 2 218 1 := ⟨mn_218, by decide +kernel, by decide +kernel, List.mem_of_getElem? (i := 1592) (by decide +kernel)⟩
set_option maxRecDepth 100000 in
theorem li_11_334 : pi_okI RX11 334 2 219 2 := ⟨mn_219, by decide +kernel, by decide +kernel, List.mem_of_getElem? (i := 1600) (by decide +kernel)⟩
set_option maxRecDepth 100000 in
theorem li_11_337 : pi_okI RX11 337 2 220 2 := ⟨mn_220, by decide +kernel, by decide +kernel, List.mem_of_getElem? (i := 1604) (by decide +kernel)⟩
set_option maxRecDepth 100000 in
theorem li_11_340 : pi_okI RX11 340 2 221 1 := ⟨mn_221, by decide +kernel, by decide +kernel, List.mem_of_getElem? (i := 1612) (by decide +kernel)⟩
set_option maxRecDepth 100000 in
theorem li_11_343 : pi_okI RX11 343 2 222 1 := ⟨mn_222, by decide +kernel, by decide +kernel, List.mem_of_getElem? (i := 1620) (by decide +kernel)⟩
set_option maxRecDepth 100000 in
theorem li_11_346 : pi_okI RX11 346 2 223 2 := ⟨mn_223, by decide +kernel, by decide +kernel, List.mem_of_getElem? (i := 1628) (by decide +kernel)⟩
set_option maxRecDepth 100000 in
theorem li_11_349 : pi_okI RX11 349 2 224 2 := ⟨mn_224, by decide +kernel, by decide +kernel, List.mem_of_getElem? (i := 1632) (by decide +kernel)⟩
set_option maxRecDepth 100000 in
theorem li_11_352 : pi_okI RX11 352 2 225 1 := ⟨mn_225, by decide +kernel, by decide +kernel, List.mem_of_getElem? (i := 1640) (by decide +kernel)⟩
set_option maxRecDepth 100000 in
theorem li_11_355 : pi_okI RX11 355 2 226 1 := ⟨mn_226, by decide +kernel, by decide +kernel, List.mem_of_getElem? (i := 1644) (by decide +kernel)⟩
set_option maxRecDepth 100000 in
theorem li_11_358 : pi_okI RX11 358 2 229 1 := ⟨mn_229, by decide +kernel, by decide +kernel, List.mem_of_getElem? (i := 1652) (by decide +kernel)⟩
set_option maxRecDepth 100000 in
theorem li_11_361 : pi_okI RX11 361 2 249 2 := ⟨mn_249, by decide +kernel, by decide +kernel, List.mem_of_getElem? (i := 1708) (by decide +kernel)⟩
set_option maxRecDepth 100000 in
theorem li_11_364 : pi_okI RX11 364 2 250 3 := ⟨mn_250, by decide +kernel, by decide +kernel, List.mem_of_getElem? (i := 1704) (by decide +kernel)⟩
set_option maxRecDepth 100000 in
theorem li_11_371 : pi_okI RX11 371 2 239 0 := ⟨mn_239, by decide +kernel, by decide +kernel, List.mem_of_getElem? (i := 1724) (by decide +kernel)⟩
set_option maxRecDepth 100000 in
theorem li_11_374 : pi_okI RX11 374 2 254 3 := ⟨mn_254, by decide +kernel, by decide +kernel, List.mem_of_getElem? (i := 1728) (by decide +kernel)⟩
set_option maxRecDepth 100000 in
theorem li_11_377 : pi_okI RX11 377 2 240 0 := ⟨mn_240, by decide +kernel, by decide +kernel, List.mem_of_getElem? (i := 1732) (by decide +kernel)⟩
set_option maxRecDepth 100000 in
theorem li_11_380 : pi_okI RX11 380 2 256 1 := ⟨mn_256, by decide +kernel, by decide +kernel, List.mem_of_getElem? (i := 1740) (by decide +kernel)⟩
set_option maxRecDepth 100000 in
theorem li_11_400 : pi_okI RX11 400 2 262 1 := ⟨mn_262, by decide +kernel, by decide +kernel, List.mem_of_getElem? (i := 1768) (by decide +kernel)⟩
set_option maxRecDepth 100000 in
theorem li_11_403 : pi_okI RX11 403 2 263 2 := ⟨mn_263, by decide +kernel, by decide +kernel, List.mem_of_getElem? (i := 1764) (by decide +kernel)⟩
set_option maxRecDepth 100000 in
theorem li_11_409 : pi_okI RX11 409 2 267 3 := ⟨mn_267, by decide +kernel, by decide +kernel, List.mem_of_getElem? (i := 1785) (by decide +kernel)⟩
set_option maxRecDepth 100000 in
theorem li_11_412 : pi_okI RX11 412 2 266 0 := ⟨mn_266, by decide +kernel, by decide +kernel, List.mem_of_getElem? (i := 1781) (by decide +kernel)⟩
set_option maxRecDepth 100000 in
theorem li_11_415 : pi_okI RX11 415 2 268 3 := ⟨mn_268, by decide +kernel, by decide +kernel, List.mem_of_getElem? (i := 1789) (by decide +kernel)⟩
set_option maxRecDepth 100000 in
theorem li_11_418 : pi_okI RX11 418 2 269 3 := ⟨mn_269, by decide +kernel, by decide +kernel, List.mem_of_getElem? (i := 1793) (by decide +kernel)⟩
set_option maxRecDepth 100000 in
theorem li_11_430 : pi_okI RX11 430 2 272 3 := ⟨mn_272, by decide +kernel, by decide +kernel, List.mem_of_getElem? (i := 1809) (by decide +kernel)⟩
set_option maxRecDepth 100000 in
theorem li_11_436 : pi_okI RX11 436 2 275 0 := ⟨mn_275, by decide +kernel, by decide +kernel, List.mem_of_getElem? (i := 1825) (by decide +kernel)⟩
set_option maxRecDepth 100000 in
theorem li_11_445 : pi_okI RX11 445 2 274 0 := ⟨mn_274, by decide +kernel, by decide +kernel, List.mem_of_getElem? (i := 1805) (by decide +kernel)⟩
set_option maxRecDepth 100000 in
theorem li_11_448 : pi_okI RX11 448 2 273 1 := ⟨mn_273, by decide +kernel, by decide +kernel, List.mem_of_getElem? (i := 1813) (by decide +kernel)⟩
set_option maxRecDepth 100000 in
theorem li_11_451 : pi_okI RX11 451 2 277 0 := ⟨mn_277, by decide +kernel, by decide +kernel, List.mem_of_getElem? (i := 1817) (by decide +kernel)⟩
set_option maxRecDepth 100000 in
theorem li_11_454 : pi_okI RX11 454 2 276 0 := ⟨mn_276, by decide +kernel, by decide +kernel, List.mem_of_getElem? (i := 1821) (by decide +kernel)⟩
set_option maxRecDepth 100000 in
theorem li_11_457 : pi_okI RX11 457 2 279 4 := ⟨mn_279, by decide +kernel, by decide +kernel, List.mem_of_getElem? (i := 1837) (by decide +kernel)⟩
set_option maxRecDepth 100000 in
theorem li_11_461 : pi_okI RX11 461 2 280 1 := ⟨mn_280, by decide +kernel, by decide +kernel, List.mem_of_getElem? (i := 1833) (by decide +kernel)⟩
theorem li_a11 : ∀ e ∈ ([(10, 2, 164, 1, 1204), (27, 4, 0, 0, 1217), (142, 2, 173, 0, 1396), (155, 0, 174, 1, 1400), (159, 0, 175, 1, 1403), (175, 2, 179, 1, 1460), (178, 2, 177, 1, 1414), (181, 2, 176, 0, 1392), (184, 0, 167, 3, 1457), (191, 2, 182, 2, 1453), (195, 2, 181, 0, 1422), (199, 2, 184, 2, 1426), (203, 2, 186, 2, 1438), (206, 2, 178, 1, 1410), (210, 2, 185, 1, 1418), (213, 2, 189, 0, 1430), (216, 2, 190, 1, 1445), (220, 2, 187, 2, 1434), (223, 2, 183, 3, 1449), (226, 2, 191, 0, 1464), (229, 0, 168, 2, 1442), (232, 2, 166, 1, 1388), (238, 2, 188, 0, 1406), (241, 2, 180, 1, 1468), (244, 2, 201, 1, 1472), (250, 0, 198, 2, 1480), (253, 0, 169, 2, 1483), (256, 2, 199, 3, 1486), (260, 0, 170, 2, 1490), (263, 2, 200, 2, 1476), (267, 2, 202, 2, 1544), (270, 2, 203, 2, 1548), (273, 2, 204, 2, 1540), (276, 2, 205, 1, 1536), (280, 2, 206, 1, 1588), (283, 2, 196, 1, 1501), (286, 2, 197, 1, 1509), (289, 2, 162, 1, 1513), (292, 2, 194, 1, 1521), (295, 0, 171, 1, 1529), (298, 2, 212, 0, 1532), (301, 2, 215, 2, 1568), (304, 2, 207, 1, 1584), (307, 2, 208, 1, 1616), (310, 2, 227, 1, 1660), (313, 2, 228, 0, 1656), (316, 2, 214, 2, 1556), (319, 2, 237, 0, 1560), (322, 2, 216, 2, 1564), (325, 2, 195, 1, 1576), (328, 2, 217, 2, 1580), (331, 2, 218, 1, 1592), (334, 2, 219, 2, 1600), (337, 2, 220, 2, 1604), (340, 2, 221, 1, 1612), (343, 2, 222, 1, 1620), (346, 2, 223, 2, 1628), (349, 2, 224, 2, 1632), (352, 2, 225, 1, 1640), (355, 2, 226, 1, 1644), (358, 2, 229, 1, 1652), (361, 2, 249, 2, 1708), (364, 2, 250, 3, 1704), (371, 2, 239, 0, 1724), (374, 2, 254, 3, 1728), (377, 2, 240, 0, 1732), (380, 2, 256, 1, 1740), (400, 2, 262, 1, 1768), (403, 2, 263, 2, 1764), (409, 2, 267, 3, 1785), (412, 2, 266, 0, 1781), (415, 2, 268, 3, 1789), (418, 2, 269, 3, 1793), (430, 2, 272, 3, 1809), (436, 2, 275, 0, 1825), (445, 2, 274, 0, 1805), (448, 2, 273, 1, 1813), (451, 2, 277, 0, 1817), (454, 2, 276, 0, 1821), (457, 2, 279, 4, 1837), (461, 2, 280, 1, 1833)] : List (Nat × Nat × Nat × Nat × Nat)), pi_okI RX11 e.1 e.2.1 e.2.2.1 e.2.2.2.1 := List.forall_mem_cons.mpr ⟨li_11_10, List.forall_mem_cons.mpr ⟨li_11_27, List.forall_mem_cons.mpr ⟨li_11_142, List.forall_mem_cons.mpr ⟨li_11_155, List.forall_mem_cons.mpr ⟨li_11_159, List.forall_mem_cons.mpr ⟨li_11_175, List.forall_mem_cons.mpr ⟨li_11_178, List.forall_mem_cons.mpr ⟨li_11_181, List.forall_mem_cons.mpr ⟨li_11_184, List.forall_mem_cons.mpr ⟨li_11_191, List.forall_mem_cons.mpr ⟨li_11_195, List.forall_mem_cons.mpr ⟨li_11_199, List.forall_mem_cons.mpr ⟨li_11_203, List.forall_mem_cons.mpr ⟨li_11_206, List.forall_mem_cons.mpr ⟨li_11_210, List.forall_mem_cons.mpr ⟨li_11_213, List.forall_mem_cons.mpr ⟨li_11_216, List.forall_mem_cons.mpr ⟨li_11_220, List.forall_mem_cons.mpr ⟨li_11_223, List.forall_mem_cons.mpr ⟨li_11_226, List.forall_mem_cons.mpr ⟨li_11_229, List.forall_mem_cons.mpr ⟨li_11_232, List.forall_mem_cons.mpr ⟨li_11_238, List.forall_mem_cons.mpr ⟨li_11_241, List.forall_mem_cons.mpr ⟨li_11_244, List.forall_mem_cons.mpr ⟨li_11_250, List.forall_mem_cons.mpr ⟨li_11_253, List.forall_mem_cons.mpr ⟨li_11_256, List.forall_mem_cons.mpr ⟨li_11_260, List.forall_mem_cons.mpr ⟨li_11_263, List.forall_mem_cons.mpr ⟨li_11_267, List.forall_mem_cons.mpr ⟨li_11_270, List.forall_mem_cons.mpr ⟨li_11_273, List.forall_mem_cons.mpr ⟨li_11_276, List.forall_mem_cons.mpr ⟨li_11_280, List.forall_mem_cons.mpr ⟨li_11_283, List.forall_mem_cons.mpr ⟨li_11_286, List.forall_mem_cons.mpr ⟨li_11_289, List.forall_mem_cons.mpr ⟨li_11_292, List.forall_mem_cons.mpr ⟨li_11_295, List.forall_mem_cons.mpr ⟨li_11_298, List.forall_mem_cons.mpr ⟨li_11_301, List.forall_mem_cons.mpr ⟨li_11_304, List.forall_mem_cons.mpr ⟨li_11_307, List.forall_mem_cons.mpr ⟨li_11_310, List.forall_mem_cons.mpr ⟨li_11_313, List.forall_mem_cons.mpr ⟨li_11_316, List.forall_mem_cons.mpr ⟨li_11_319, List.forall_mem_cons.mpr ⟨li_11_322, List.forall_mem_cons.mpr ⟨li_11_325, List.forall_mem_cons.mpr ⟨li_11_328, List.forall_mem_cons.mpr ⟨li_11_331, List.forall_mem_cons.mpr ⟨li_11_334, List.forall_mem_cons.mpr ⟨li_11_337, List.forall_mem_cons.mpr ⟨li_11_340, List.forall_mem_cons.mpr ⟨li_11_343, List.forall_mem_cons.mpr ⟨li_11_346, List.forall_mem_cons.mpr ⟨li_11_349, List.forall_mem_cons.mpr ⟨li_11_352, List.forall_mem_cons.mpr ⟨li_11_355, List.forall_mem_cons.mpr ⟨li_11_358, List.forall_mem_cons.mpr ⟨li_11_361, List.forall_mem_cons.mpr ⟨li_11_364, List.forall_mem_cons.mpr ⟨li_11_371, List.forall_mem_cons.mpr ⟨li_11_374, List.forall_mem_cons.mpr ⟨li_11_377, List.forall_mem_cons.mpr ⟨li_11_380, List.forall_mem_cons.mpr ⟨li_11_400, List.forall_mem_cons.mpr ⟨li_11_403, List.forall_mem_cons.mpr ⟨li_11_409, List.forall_mem_cons.mpr ⟨li_11_412, List.forall_mem_cons.mpr ⟨li_11_415, List.forall_mem_cons.mpr ⟨li_11_418, List.forall_mem_cons.mpr ⟨li_11_430, List.forall_mem_cons.mpr ⟨li_11_436, List.forall_mem_cons.mpr ⟨li_11_445, List.forall_mem_cons.mpr ⟨li_11_448, List.forall_mem_cons.mpr ⟨li_11_451, List.forall_mem_cons.mpr ⟨li_11_454, List.forall_mem_cons.mpr ⟨li_11_457, List.forall_mem_cons.mpr ⟨li_11_461, fun _ h => absurd h List.not_mem_nil⟩⟩⟩⟩⟩⟩⟩⟩⟩⟩⟩⟩⟩⟩⟩⟩⟩⟩⟩⟩⟩⟩⟩⟩⟩⟩⟩⟩⟩⟩⟩⟩⟩⟩⟩⟩⟩⟩⟩⟩⟩⟩⟩⟩⟩⟩⟩⟩⟩⟩⟩⟩⟩⟩⟩⟩⟩⟩⟩⟩⟩⟩⟩⟩⟩⟩⟩⟩⟩⟩⟩⟩⟩⟩⟩⟩⟩⟩⟩⟩⟩
theorem li_a12 : ∀ e ∈ ([] : List (Nat × Nat × Nat × Nat × Nat)), pi_okI "java/lang/Integer" e.1 e.2.1 e.2.2.1 e.2.2.2.1 := fun _ h => absurd h List.not_mem_nil
theorem li_all {own : Nat} {C : String} {t : List (Nat × Nat × Nat × Nat × Nat)} (hc : pi_cn[own]? = some C) (ht : pi_iT[own]? = some t) : ∀ e ∈ t, pi_okI C e.1 e.2.1 e.2.2.1 e.2.2.2.1 := by
  match own, hc, ht with
  | 0, hc, ht => cases hc; cases ht; exact li_a0
  | 1, hc, ht => cases hc; cases ht; exact li_a1
  | 2, hc, ht => cases hc; cases ht; exact li_a2
  | 3, hc, ht => cases hc; cases ht; exact li_a3
  | 4, hc, ht => cases hc; cases ht; exact li_a4
  | 5, hc, ht => cases hc; cases ht; exact li_a5
  | 6, hc, ht => cases hc; cases ht; exact li_a6
  | 7, hc, ht => cases hc; cases ht; exact li_a7
  | 8, hc, ht => cases hc; cases ht; exact li_a8
  | 9, hc, ht => cases hc; cases ht; exact li_a9
  | 10, hc, ht => cases hc; cases ht; exact li_a10
  | 11, hc, ht => cases hc; cases ht; exact li_a11
  | 12, hc, ht => cases hc; cases ht; exact li_a12
  | _ + 13, hc, _ => exact absurd hc (by simp [pi_cn])
set_option maxRecDepth 100000 in
theorem lf_0_9 : pi_okF RX0 9 0 0 := ⟨RX0, TX0, 6, rfl, by decide, List.mem_of_getElem? (i := 331) (by decide +kernel)⟩
set_option maxRecDepth 100000 in
theorem lf_0_15 : pi_okF RX0 15 0 1 := ⟨RX0, TX0, 6, rfl, by decide, List.mem_of_getElem? (i := 332) (by decide +kernel)⟩
set_option maxRecDepth 100000 in
theorem lf_0_19 : pi_okF RX0 19 0 2 := ⟨RX0, TX0, 6, rfl, by decide, List.mem_of_getElem? (i := 333) (by decide +kernel)⟩
set_option maxRecDepth 100000 in
theorem lf_0_23 : pi_okF RX0 23 0 3 := ⟨RX0, TX0, 6, rfl, by decide, List.mem_of_getElem? (i := 335) (by decide +kernel)⟩
set_option maxRecDepth 100000 in
theorem lf_0_26 : pi_okF RX0 26 0 4 := ⟨RX0, TX0, 6, rfl, by decide, List.mem_of_getElem? (i := 337) (by decide +kernel)⟩
set_option maxRecDepth 100000 in
theorem lf_0_29 : pi_okF RX0 29 0 5 := ⟨RX0, TX0, 6, rfl, by decide, List.mem_of_getElem? (i := 339) (by decide +kernel)⟩
set_option maxRecDepth 100000 in
theorem lf_0_39 : pi_okF RX0 39 9 5 := ⟨RX9, TX9, 12, rfl, by decide, List.mem_of_getElem? (i := 174) (by decide +kernel)⟩
set_option maxRecDepth 100000 in
theorem lf_0_56 : pi_okF RX0 56 9 9 := ⟨RX9, TX9, 12, rfl, by decide, List.mem_of_getElem? (i := 184) (by decide +kernel)⟩
theorem lf_a0 : ∀ e ∈ ([(9, 0, 0, 331), (15, 0, 1, 332), (19, 0, 2, 333), (23, 0, 3, 335), (26, 0, 4, 337), (29, 0, 5, 339), (39, 9, 5, 174), (56, 9, 9, 184)] : List (Nat × Nat × Nat × Nat)), pi_okF RX0 e.1 e.2.1 e.2.2.1 := List.forall_mem_cons.mpr ⟨lf_0_9, List.forall_mem_cons.mpr ⟨lf_0_15, List.forall_mem_cons.mpr ⟨lf_0_19, List.forall_mem_cons.mpr ⟨lf_0_23, List.forall_mem_cons.mpr ⟨lf_0_26, List.forall_mem_cons.mpr ⟨lf_0_29, List.forall_mem_cons.mpr ⟨lf_0_39, List.forall_mem_cons.mpr ⟨lf_0_56, fun _ h => absurd h List.not_mem_nil⟩⟩⟩⟩⟩⟩⟩⟩
set_option maxRecDepth 100000 in
theorem lf_1_10 : pi_okF RX1 10 1 0 := ⟨RX1, TX1, 4, rfl, by decide, List.mem_of_getElem? (i := 387) (by decide +kernel)⟩
set_option maxRecDepth 100000 in
theorem lf_1_18 : pi_okF RX1 18 2 0 := ⟨RX2, TX2, 2, rfl, by decide, List.mem_of_getElem? (i := 225) (by decide +kernel)⟩
set_option maxRecDepth 100000 in
theorem lf_1_25 : pi_okF RX1 25 1 1 := ⟨RX1, TX1, 4, rfl, by decide, List.mem_of_getElem? (i := 388) (by decide +kernel)⟩
set_option maxRecDepth 100000 in
theorem lf_1_32 : pi_okF RX1 32 1 2 := ⟨RX1, TX1, 4, rfl, by decide, List.mem_of_getElem? (i := 389) (by decide +kernel)⟩
set_option maxRecDepth 100000 in
theorem lf_1_46 : pi_okF RX1 46 1 3 := ⟨RX1, TX1, 4, rfl, by decide, List.mem_of_getElem? (i := 390) (by decide +kernel)⟩
theorem lf_a1 : ∀ e ∈ ([(10, 1, 0, 387), (18, 2, 0, 225), (25, 1, 1, 388), (32, 1, 2, 389), (46, 1, 3, 390)] : List (Nat × Nat × Nat × Nat)), pi_okF RX1 e.1 e.2.1 e.2.2.1 := List.forall_mem_cons.mpr ⟨lf_1_10, List.forall_mem_cons.mpr ⟨lf_1_18, List.forall_mem_cons.mpr ⟨lf_1_25, List.forall_mem_cons.mpr ⟨lf_1_32, List.forall_mem_cons.mpr ⟨lf_1_46, fun _ h => absurd h List.not_mem_nil⟩⟩⟩⟩⟩
set_option maxRecDepth 100000 in
theorem lf_2_11 : pi_okF RX2 11 2 0 := ⟨RX2, TX2, 2, rfl, by decide, List.mem_of_getElem? (i := 224) (by decide +kernel)⟩
set_option maxRecDepth 100000 in
theorem lf_2_15 : pi_okF RX2 15 2 1 := ⟨RX2, TX2, 2, rfl, by decide, List.mem_of_getElem? (i := 228) (by decide +kernel)⟩
theorem lf_a2 : ∀ e ∈ ([(11, 2, 0, 224), (15, 2, 1, 228)] : List (Nat × Nat × Nat × Nat)), pi_okF RX2 e.1 e.2.1 e.2.2.1 := List.forall_mem_cons.mpr ⟨lf_2_11, List.forall_mem_cons.mpr ⟨lf_2_15, fun _ h => absurd h List.not_mem_nil⟩⟩
set_option maxRecDepth 100000 in
theorem lf_3_9 : pi_okF RX3 9 3 0 := ⟨RX3, TX3, 2, rfl, by decide, List.mem_of_getElem? (i := 241) (by decide +kernel)⟩
set_option maxRecDepth 100000 in
theorem lf_3_15 : pi_okF RX3 15 3 1 := ⟨RX3, TX3, 2, rfl, by decide, List.mem_of_getElem? (i := 242) (by decide +kernel)⟩
set_option maxRecDepth 100000 in
theorem lf_3_30 : pi_okF RX3 30 9 5 := ⟨RX9, TX9, 12, rfl, by decide, List.mem_of_getElem? (i := 175) (by decide +kernel)⟩
set_option maxRecDepth 100000 in
theorem lf_3_42 : pi_okF RX3 42 9 9 := ⟨RX9, TX9, 12, rfl, by decide, List.mem_of_getElem? (i := 183) (by decide +kernel)⟩
set_option maxRecDepth 100000 in
theorem lf_3_84 : pi_okF RX3 84 2 0 := ⟨RX2, TX2, 2, rfl, by decide, List.mem_of_getElem? (i := 227) (by decide +kernel)⟩
set_option maxRecDepth 100000 in
theorem lf_3_95 : pi_okF RX3 95 9 8 := ⟨RX9, TX9, 12, rfl, by decide, List.mem_of_getElem? (i := 181) (by decide +kernel)⟩
theorem lf_a3 : ∀ e ∈ ([(9, 3, 0, 241), (15, 3, 1, 242), (30, 9, 5, 175), (42, 9, 9, 183), (84, 2, 0, 227), (95, 9, 8, 181)] : List (Nat × Nat × Nat × Nat)), pi_okF RX3 e.1 e.2.1 e.2.2.1 := List.forall_mem_cons.mpr ⟨lf_3_9, List.forall_mem_cons.mpr ⟨lf_3_15, List.forall_mem_cons.mpr ⟨lf_3_30, List.forall_mem_cons.mpr ⟨lf_3_42, List.forall_mem_cons.mpr ⟨lf_3_84, List.forall_mem_cons.mpr ⟨lf_3_95, fun _ h => absurd h List.not_mem_nil⟩⟩⟩⟩⟩⟩
set_option maxRecDepth 100000 in
theorem lf_4_11 : pi_okF RX4 11 4 0 := ⟨RX4, TX4, 3, rfl, by decide, List.mem_of_getElem? (i := 254) (by decide +kernel)⟩
set_option maxRecDepth 100000 in
theorem lf_4_15 : pi_okF RX4 15 4 1 := ⟨RX4, TX4, 3, rfl, by decide, List.mem_of_getElem? (i := 256) (by decide +kernel)⟩
set_option maxRecDepth 100000 in
theorem lf_4_79 : pi_okF RX4 79 4 2 := ⟨RX4, TX4, 3, rfl, by decide, List.mem_of_getElem? (i := 259) (by decide +kernel)⟩
theorem lf_a4 : ∀ e ∈ ([(11, 4, 0, 254), (15, 4, 1, 256), (79, 4, 2, 259)] : List (Nat × Nat × Nat × Nat)), pi_okF RX4 e.1 e.2.1 e.2.2.1 := List.forall_mem_cons.mpr ⟨lf_4_11, List.forall_mem_cons.mpr ⟨lf_4_15, List.forall_mem_cons.mpr ⟨lf_4_79, fun _ h => absurd h List.not_mem_nil⟩⟩⟩
set_option maxRecDepth 100000 in
theorem lf_5_13 : pi_okF RX5 13 5 0 := ⟨RX5, TX5, 3, rfl, by decide, List.mem_of_getElem? (i := 273) (by decide +kernel)⟩
set_option maxRecDepth 100000 in
theorem lf_5_17 : pi_okF RX5 17 5 2 := ⟨RX5, TX5, 3, rfl, by decide, List.mem_of_getElem? (i := 275) (by decide +kernel)⟩
set_option maxRecDepth 100000 in
theorem lf_5_21 : pi_okF RX5 21 5 1 := ⟨RX5, TX5, 3, rfl, by decide, List.mem_of_getElem? (i := 274) (by decide +kernel)⟩
theorem lf_a5 : ∀ e ∈ ([(13, 5, 0, 273), (17, 5, 2, 275), (21, 5, 1, 274)] : List (Nat × Nat × Nat × Nat)), pi_okF RX5 e.1 e.2.1 e.2.2.1 := List.forall_mem_cons.mpr ⟨lf_5_13, List.forall_mem_cons.mpr ⟨lf_5_17, List.forall_mem_cons.mpr ⟨lf_5_21, fun _ h => absurd h List.not_mem_nil⟩⟩⟩
set_option maxRecDepth 100000 in
theorem lf_6_9 : pi_okF RX6 9 6 0 := ⟨RX6, TX6, 4, rfl, by decide, List.mem_of_getElem? (i := 360) (by decide +kernel)⟩
set_option maxRecDepth 100000 in
theorem lf_6_15 : pi_okF RX6 15 6 1 := ⟨RX6, TX6, 4, rfl, by decide, List.mem_of_getElem? (i := 361) (by decide +kernel)⟩
set_option maxRecDepth 100000 in
theorem lf_6_18 : pi_okF RX6 18 6 2 := ⟨RX6, TX6, 4, rfl, by decide, List.mem_of_getElem? (i := 363) (by decide +kernel)⟩
set_option maxRecDepth 100000 in
theorem lf_6_21 : pi_okF RX6 21 6 3 := ⟨RX6, TX6, 4, rfl, by decide, List.mem_of_getElem? (i := 364) (by decide +kernel)⟩
theorem lf_a6 : ∀ e ∈ ([(9, 6, 0, 360), (15, 6, 1, 361), (18, 6, 2, 363), (21, 6, 3, 364)] : List (Nat × Nat × Nat × Nat)), pi_okF RX6 e.1 e.2.1 e.2.2.1 := List.forall_mem_cons.mpr ⟨lf_6_9, List.forall_mem_cons.mpr ⟨lf_6_15, List.forall_mem_cons.mpr ⟨lf_6_18, List.forall_mem_cons.mpr ⟨lf_6_21, fun _ h => absurd h List.not_mem_nil⟩⟩⟩⟩
set_option maxRecDepth 100000 in
theorem lf_7_11 : pi_okF RX7 11 7 0 := ⟨RX7, TX7, 5, rfl, by decide, List.mem_of_getElem? (i := 289) (by decide +kernel)⟩
set_option maxRecDepth 100000 in
theorem lf_7_15 : pi_okF RX7 15 7 1 := ⟨RX7, TX7, 5, rfl, by decide, List.mem_of_getElem? (i := 290) (by decide +kernel)⟩
set_option maxRecDepth 100000 in
theorem lf_7_18 : pi_okF RX7 18 7 2 := ⟨RX7, TX7, 5, rfl, by decide, List.mem_of_getElem? (i := 291) (by decide +kernel)⟩
set_option maxRecDepth 100000 in
theorem lf_7_21 : pi_okF RX7 21 7 3 := ⟨RX7, TX7, 5, rfl, by decide, List.mem_of_getElem? (i := 292) (by decide +kernel)⟩
set_option maxRecDepth 100000 in
theorem lf_7_24 : pi_okF RX7 24 7 4 := ⟨RX7, TX7, 5, rfl, by decide, List.mem_of_getElem? (i := 293) (by decide +kernel)⟩
set_option maxRecDepth 100000 in
theorem lf_7_36 : pi_okF RX7 36 4 0 := ⟨RX4, TX4, 3, rfl, by decide, List.mem_of_getElem? (i := 255) (by decide +kernel)⟩
set_option maxRecDepth 100000 in
theorem lf_7_55 : pi_okF RX7 55 4 1 := ⟨RX4, TX4, 3, rfl, by decide, List.mem_of_getElem? (i := 258) (by decide +kernel)⟩
theorem lf_a7 : ∀ e ∈ ([(11, 7, 0, 289), (15, 7, 1, 290), (18, 7, 2, 291), (21, 7, 3, 292), (24, 7, 4, 293), (36, 4, 0, 255), (55, 4, 1, 258)] : List (Nat × Nat × Nat × Nat)), pi_okF RX7 e.1 e.2.1 e.2.2.1 := List.forall_mem_cons.mpr ⟨lf_7_11, List.forall_mem_cons.mpr ⟨lf_7_15, List.forall_mem_cons.mpr ⟨lf_7_18, List.forall_mem_cons.mpr ⟨lf_7_21, List.forall_mem_cons.mpr ⟨lf_7_24, List.forall_mem_cons.mpr ⟨lf_7_36, List.forall_mem_cons.mpr ⟨lf_7_55, fun _ h => absurd h List.not_mem_nil⟩⟩⟩⟩⟩⟩⟩
set_option maxRecDepth 100000 in
theorem lf_8_9 : pi_okF RX8 9 8 0 := ⟨RX8, TX8, 4, rfl, by decide, List.mem_of_getElem? (i := 312) (by decide +kernel)⟩
set_option maxRecDepth 100000 in
theorem lf_8_15 : pi_okF RX8 15 8 1 := ⟨RX8, TX8, 4, rfl, by decide, List.mem_of_getElem? (i := 313) (by decide +kernel)⟩
set_option maxRecDepth 100000 in
theorem lf_8_19 : pi_okF RX8 19 8 2 := ⟨RX8, TX8, 4, rfl, by decide, List.mem_of_getElem? (i := 314) (by decide +kernel)⟩
set_option maxRecDepth 100000 in
theorem lf_8_23 : pi_okF RX8 23 8 3 := ⟨RX8, TX8, 4, rfl, by decide, List.mem_of_getElem? (i := 315) (by decide +kernel)⟩
set_option maxRecDepth 100000 in
theorem lf_8_42 : pi_okF RX8 42 9 5 := ⟨RX9, TX9, 12, rfl, by decide, List.mem_of_getElem? (i := 176) (by decide +kernel)⟩
set_option maxRecDepth 100000 in
theorem lf_8_51 : pi_okF RX8 51 9 9 := ⟨RX9, TX9, 12, rfl, by decide, List.mem_of_getElem? (i := 185) (by decide +kernel)⟩
set_option maxRecDepth 100000 in
theorem lf_8_84 : pi_okF RX8 84 9 7 := ⟨RX9, TX9, 12, rfl, by decide, List.mem_of_getElem? (i := 180) (by decide +kernel)⟩
theorem lf_a8 : ∀ e ∈ ([(9, 8, 0, 312), (15, 8, 1, 313), (19, 8, 2, 314), (23, 8, 3, 315), (42, 9, 5, 176), (51, 9, 9, 185), (84, 9, 7, 180)] : List (Nat × Nat × Nat × Nat)), pi_okF RX8 e.1 e.2.1 e.2.2.1 := List.forall_mem_cons.mpr ⟨lf_8_9, List.forall_mem_cons.mpr ⟨lf_8_15, List.forall_mem_cons.mpr ⟨lf_8_19, List.forall_mem_cons.mpr ⟨lf_8_23, List.forall_mem_cons.mpr ⟨lf_8_42, List.forall_mem_cons.mpr ⟨lf_8_51, List.forall_mem_cons.mpr ⟨lf_8_84, fun _ h => absurd h List.not_mem_nil⟩⟩⟩⟩⟩⟩⟩
set_option maxRecDepth 100000 in
theorem lf_9_9 : pi_okF RX9 9 9 0 := ⟨RX9, TX9, 12, rfl, by decide, List.mem_of_getElem? (i := 168) (by decide +kernel)⟩
set_option maxRecDepth 100000 in
theorem lf_9_15 : pi_okF RX9 15 9 1 := ⟨RX9, TX9, 12, rfl, by decide, List.mem_of_getElem? (i := 169) (by decide +kernel)⟩
set_option maxRecDepth 100000 in
theorem lf_9_33 : pi_okF RX9 33 9 2 := ⟨RX9, TX9, 12, rfl, by decide, List.mem_of_getElem? (i := 171) (by decide +kernel)⟩
set_option maxRecDepth 100000 in
theorem lf_9_37 : pi_okF RX9 37 9 3 := ⟨RX9, TX9, 12, rfl, by decide, List.mem_of_getElem? (i := 172) (by decide +kernel)⟩
set_option maxRecDepth 100000 in
theorem lf_9_40 : pi_okF RX9 40 9 4 := ⟨RX9, TX9, 12, rfl, by decide, List.mem_of_getElem? (i := 173) (by decide +kernel)⟩
set_option maxRecDepth 100000 in
theorem lf_9_43 : pi_okF RX9 43 9 10 := ⟨RX9, TX9, 12, rfl, by decide, List.mem_of_getElem? (i := 187) (by decide +kernel)⟩
set_option maxRecDepth 100000 in
theorem lf_9_46 : pi_okF RX9 46 9 11 := ⟨RX9, TX9, 12, rfl, by decide, List.mem_of_getElem? (i := 189) (by decide +kernel)⟩
set_option maxRecDepth 100000 in
theorem lf_9_56 : pi_okF RX9 56 9 7 := ⟨RX9, TX9, 12, rfl, by decide, List.mem_of_getElem? (i := 179) (by decide +kernel)⟩
set_option maxRecDepth 100000 in
theorem lf_9_59 : pi_okF RX9 59 9 8 := ⟨RX9, TX9, 12, rfl, by decide, List.mem_of_getElem? (i := 182) (by decide +kernel)⟩
set_option maxRecDepth 100000 in
theorem lf_9_63 : pi_okF RX9 63 9 9 := ⟨RX9, TX9, 12, rfl, by decide, List.mem_of_getElem? (i := 186) (by decide +kernel)⟩
set_option maxRecDepth 100000 in
theorem lf_9_66 : pi_okF RX9 66 9 5 := ⟨RX9, TX9, 12, rfl, by decide, List.mem_of_getElem? (i := 177) (by decide +kernel)⟩
set_option maxRecDepth 100000 in
theorem lf_9_75 : pi_okF RX9 75 9 6 := ⟨RX9, TX9, 12, rfl, by decide, List.mem_of_getElem? (i := 178) (by decide +kernel)⟩
theorem lf_a9 : ∀ e ∈ ([(9, 9, 0, 168), (15, 9, 1, 169), (33, 9, 2, 171), (37, 9, 3, 172), (40, 9, 4, 173), (43, 9, 10, 187), (46, 9, 11, 189), (56, 9, 7, 179), (59, 9, 8, 182), (63, 9, 9, 186), (66, 9, 5, 177), (75, 9, 6, 178)] : List (Nat × Nat × Nat × Nat)), pi_okF RX9 e.1 e.2.1 e.2.2.1 := List.forall_mem_cons.mpr ⟨lf_9_9, List.forall_mem_cons.mpr ⟨lf_9_15, List.forall_mem_cons.mpr ⟨lf_9_33, List.forall_mem_cons.mpr ⟨lf_9_37, List.forall_mem_cons.mpr ⟨lf_9_40, List.forall_mem_cons.mpr ⟨lf_9_43, List.forall_mem_cons.mpr ⟨lf_9_46, List.forall_mem_cons.mpr ⟨lf_9_56, List.forall_mem_cons.mpr ⟨lf_9_59, List.forall_mem_cons.mpr ⟨lf_9_63, List.forall_mem_cons.mpr ⟨lf_9_66, List.forall_mem_cons.mpr ⟨lf_9_75, fun _ h => absurd h List.not_mem_nil⟩⟩⟩⟩⟩⟩⟩⟩⟩⟩⟩⟩
set_option maxRecDepth 100000 in
theorem lf_10_12 : pi_okF RX10 12 10 0 := ⟨RX10, TX10, 19, rfl, by decide, List.mem_of_getElem? (i := 401) (by decide +kernel)⟩
set_option maxRecDepth 100000 in
theorem lf_10_19 : pi_okF RX10 19 10 1 := ⟨RX10, TX10, 19, rfl, by decide, List.mem_of_getElem? (i := 402) (by decide +kernel)⟩
set_option maxRecDepth 100000 in
theorem lf_10_23 : pi_okF RX10 23 10 2 := ⟨RX10, TX10, 19, rfl, by decide, List.mem_of_getElem? (i := 403) (by decide +kernel)⟩
set_option maxRecDepth 100000 in
theorem lf_10_31 : pi_okF RX10 31 10 3 := ⟨RX10, TX10, 19, rfl, by decide, List.mem_of_getElem? (i := 404) (by decide +kernel)⟩
set_option maxRecDepth 100000 in
theorem lf_10_37 : pi_okF RX10 37 2 0 := ⟨RX2, TX2, 2, rfl, by decide, List.mem_of_getElem? (i := 226) (by decide +kernel)⟩
set_option maxRecDepth 100000 in
theorem lf_10_44 : pi_okF RX10 44 10 4 := ⟨RX10, TX10, 19, rfl, by decide, List.mem_of_getElem? (i := 405) (by decide +kernel)⟩
set_option maxRecDepth 100000 in
theorem lf_10_48 : pi_okF RX10 48 10 5 := ⟨RX10, TX10, 19, rfl, by decide, List.mem_of_getElem? (i := 406) (by decide +kernel)⟩
set_option maxRecDepth 100000 in
theorem lf_10_54 : pi_okF RX10 54 10 6 := ⟨RX10, TX10, 19, rfl, by decide, List.mem_of_getElem? (i := 407) (by decide +kernel)⟩
set_option maxRecDepth 100000 in
theorem lf_10_61 : pi_okF RX10 61 10 7 := ⟨RX10, TX10, 19, rfl, by decide, List.mem_of_getElem? (i := 408) (by decide +kernel)⟩
set_option maxRecDepth 100000 in
theorem lf_10_65 : pi_okF RX10 65 10 8 := ⟨RX10, TX10, 19, rfl, by decide, List.mem_of_getElem? (i := 409) (by decide +kernel)⟩
set_option maxRecDepth 100000 in
theorem lf_10_73 : pi_okF RX10 73 10 9 := ⟨RX10, TX10, 19, rfl, by decide, List.mem_of_getElem? (i := 410) (by decide +kernel)⟩
set_option maxRecDepth 100000 in
theorem lf_10_80 : pi_okF RX10 80 10 10 := ⟨RX10, TX10, 19, rfl, by decide, List.mem_of_getElem? (i := 411) (by decide +kernel)⟩
set_option maxRecDepth 100000 in
theorem lf_10_87 : pi_okF RX10 87 10 11 := ⟨RX10, TX10, 19, rfl, by decide, List.mem_of_getElem? (i := 412) (by decide +kernel)⟩
set_option maxRecDepth 100000 in
theorem lf_10_91 : pi_okF RX10 91 10 12 := ⟨RX10, TX10, 19, rfl, by decide, List.mem_of_getElem? (i := 413) (by decide +kernel)⟩
set_option maxRecDepth 100000 in
theorem lf_10_97 : pi_okF RX10 97 10 13 := ⟨RX10, TX10, 19, rfl, by decide, List.mem_of_getElem? (i := 414) (by decide +kernel)⟩
set_option maxRecDepth 100000 in
theorem lf_10_101 : pi_okF RX10 101 10 14 := ⟨RX10, TX10, 19, rfl, by decide, List.mem_of_getElem? (i := 415) (by decide +kernel)⟩
set_option maxRecDepth 100000 in
theorem lf_10_104 : pi_okF RX10 104 10 15 := ⟨RX10, TX10, 19, rfl, by decide, List.mem_of_getElem? (i := 416) (by decide +kernel)⟩
set_option maxRecDepth 100000 in
theorem lf_10_107 : pi_okF RX10 107 10 16 := ⟨RX10, TX10, 19, rfl, by decide, List.mem_of_getElem? (i := 417) (by decide +kernel)⟩
set_option maxRecDepth 100000 in
theorem lf_10_111 : pi_okF RX10 111 10 17 := ⟨RX10, TX10, 19, rfl, by decide, List.mem_of_getElem? (i := 418) (by decide +kernel)⟩
set_option maxRecDepth 100000 in
theorem lf_10_115 : pi_okF RX10 115 10 18 := ⟨RX10, TX10, 19, rfl, by decide, List.mem_of_getElem? (i := 419) (by decide +kernel)⟩
set_option maxRecDepth 100000 in
theorem lf_10_118 : pi_okF RX10 118 9 2 := ⟨RX9, TX9, 12, rfl, by decide, List.mem_of_getElem? (i := 170) (by decide +kernel)⟩
set_option maxRecDepth 100000 in
theorem lf_10_129 : pi_okF RX10 129 9 11 := ⟨RX9, TX9, 12, rfl, by decide, List.mem_of_getElem? (i := 190) (by decide +kernel)⟩
set_option maxRecDepth 100000 in
theorem lf_10_145 : pi_okF RX10 145 9 10 := ⟨RX9, TX9, 12, rfl, by decide, List.mem_of_getElem? (i := 188) (by decide +kernel)⟩
set_option maxRecDepth 100000 in
theorem lf_10_163 : pi_okF RX10 163 4 1 := ⟨RX4, TX4, 3, rfl, by decide, List.mem_of_getElem? (i := 257) (by decide +kernel)⟩
set_option maxRecDepth 100000 in
theorem lf_10_237 : pi_okF RX10 237 6 3 := ⟨RX6, TX6, 4, rfl, by decide, List.mem_of_getElem? (i := 365) (by decide +kernel)⟩
set_option maxRecDepth 100000 in
theorem lf_10_240 : pi_okF RX10 240 6 1 := ⟨RX6, TX6, 4, rfl, by decide, List.mem_of_getElem? (i := 362) (by decide +kernel)⟩
set_option maxRecDepth 100000 in
theorem lf_10_290 : pi_okF RX10 290 7 4 := ⟨RX7, TX7, 5, rfl, by decide, List.mem_of_getElem? (i := 294) (by decide +kernel)⟩
set_option maxRecDepth 100000 in
theorem lf_10_304 : pi_okF RX10 304 1 3 := ⟨RX1, TX1, 4, rfl, by decide, List.mem_of_getElem? (i := 391) (by decide +kernel)⟩
set_option maxRecDepth 100000 in
theorem lf_10_317 : pi_okF RX10 317 0 5 := ⟨RX0, TX0, 6, rfl, by decide, List.mem_of_getElem? (i := 340) (by decide +kernel)⟩
set_option maxRecDepth 100000 in
theorem lf_10_320 : pi_okF RX10 320 0 2 := ⟨RX0, TX0, 6, rfl, by decide, List.mem_of_getElem? (i := 334) (by decide +kernel)⟩
set_option maxRecDepth 100000 in
theorem lf_10_323 : pi_okF RX10 323 0 3 := ⟨RX0, TX0, 6, rfl, by decide, List.mem_of_getElem? (i := 336) (by decide +kernel)⟩
set_option maxRecDepth 100000 in
theorem lf_10_326 : pi_okF RX10 326 0 4 := ⟨RX0, TX0, 6, rfl, by decide, List.mem_of_getElem? (i := 338) (by decide +kernel)⟩
theorem lf_a10 : ∀ e ∈ ([(12, 10, 0, 401), (19, 10, 1, 402), (23, 10, 2, 403), (31, 10, 3, 404), (37, 2, 0, 226), (44, 10, 4, 405), (48, 10, 5, 406), (54, 10, 6, 407), (61, 10, 7, 408), (65, 10, 8, 409), (73, 10, 9, 410), (80, 10, 10, 411), (87, 10, 11, 412), (91, 10, 12, 413), (97, 10, 13, 414), (101, 10, 14, 415), (104, 10, 15, 416), (107, 10, 16, 417), (111, 10, 17, 418), (115, 10, 18, 419), (118, 9, 2, 170), (129, 9, 11, 190), (145, 9, 10, 188), (163, 4, 1, 257), (237, 6, 3, 365), (240, 6, 1, 362), (290, 7, 4, 294), (304, 1, 3, 391), (317, 0, 5, 340), (320, 0, 2, 334), (323, 0, 3, 336), (326, 0, 4, 338)] : List (Nat × Nat × Nat × Nat)), pi_okF RX10 e.1 e.2.1 e.2.2.1 := List.forall_mem_cons.mpr ⟨lf_10_12, List.forall_mem_cons.mpr ⟨lf_10_19, List.forall_mem_cons.mpr ⟨lf_10_23, List.forall_mem_cons.mpr ⟨lf_10_31, List.forall_mem_cons.mpr ⟨lf_10_37, List.forall_mem_cons.mpr ⟨lf_10_44, List.forall_mem_cons.mpr ⟨lf_10_48, List.forall_mem_cons.mpr ⟨lf_10_54, List.forall_mem_cons.mpr ⟨lf_10_61, List.forall_mem_cons.mpr ⟨lf_10_65, List.forall_mem_cons.mpr ⟨lf_10_73, List.forall_mem_cons.mpr ⟨lf_10_80, List.forall_mem_cons.mpr ⟨lf_10_87, List.forall_mem_cons.mpr ⟨lf_10_91, List.forall_mem_cons.mpr ⟨lf_10_97, List.forall_mem_cons.mpr ⟨lf_10_101, List.forall_mem_cons.mpr ⟨lf_10_104, List.forall_mem_cons.mpr ⟨lf_10_107, List.forall_mem_cons.mpr ⟨lf_10_111, List.forall_mem_cons.mpr ⟨lf_10_115, List.forall_mem_cons.mpr ⟨lf_10_118, List.forall_mem_cons.mpr ⟨lf_10_129, List.forall_mem_cons.mpr ⟨lf_10_145, List.forall_mem_cons.mpr ⟨lf_10_163, List.forall_mem_cons.mpr ⟨lf_10_237, List.forall_mem_cons.mpr ⟨lf_10_240, List.forall_mem_cons.mpr ⟨lf_10_290, List.forall_mem_cons.mpr ⟨lf_10_304, List.forall_mem_cons.mpr ⟨lf_10_317, List.forall_mem_cons.mpr ⟨lf_10_320, List.forall_mem_cons.mpr ⟨lf_10_323, List.forall_mem_cons.mpr ⟨lf_10_326, fun _ h => absurd h List.not_mem_nil⟩⟩⟩⟩⟩⟩⟩⟩⟩⟩⟩⟩⟩⟩⟩⟩⟩⟩⟩⟩⟩⟩⟩⟩⟩⟩⟩⟩⟩⟩⟩⟩
set_option maxRecDepth 100000 in
theorem lf_11_1 : pi_okF RX11 1 11 0 := ⟨RX11, TX11, 45, rfl, by decide, List.mem_of_getElem? (i := 1247) (by decide +kernel)⟩
set_option maxRecDepth 100000 in
theorem lf_11_7 : pi_okF RX11 7 11 2 := ⟨RX11, TX11, 45, rfl, by decide, List.mem_of_getElem? (i := 1249) (by decide +kernel)⟩
set_option maxRecDepth 100000 in
theorem lf_11_14 : pi_okF RX11 14 11 1 := ⟨RX11, TX11, 45, rfl, by decide, List.mem_of_getElem? (i := 1248) (by decide +kernel)⟩
set_option maxRecDepth 100000 in
theorem lf_11_18 : pi_okF RX11 18 11 3 := ⟨RX11, TX11, 45, rfl, by decide, List.mem_of_getElem? (i := 1250) (by decide +kernel)⟩
set_option maxRecDepth 100000 in
theorem lf_11_21 : pi_okF RX11 21 11 4 := ⟨RX11, TX11, 45, rfl, by decide, List.mem_of_getElem? (i := 1251) (by decide +kernel)⟩
set_option maxRecDepth 100000 in
theorem lf_11_24 : pi_okF RX11 24 11 5 := ⟨RX11, TX11, 45, rfl, by decide, List.mem_of_getElem? (i := 1252) (by decide +kernel)⟩
set_option maxRecDepth 100000 in
theorem lf_11_33 : pi_okF RX11 33 11 6 := ⟨RX11, TX11, 45, rfl, by decide, List.mem_of_getElem? (i := 1253) (by decide +kernel)⟩
set_option maxRecDepth 100000 in
theorem lf_11_37 : pi_okF RX11 37 11 7 := ⟨RX11, TX11, 45, rfl, by decide, List.mem_of_getElem? (i := 1254) (by decide +kernel)⟩
set_option maxRecDepth 100000 in
theorem lf_11_40 : pi_okF RX11 40 11 8 := ⟨RX11, TX11, 45, rfl, by decide, List.mem_of_getElem? (i := 1255) (by decide +kernel)⟩
set_option maxRecDepth 100000 in
theorem lf_11_43 : pi_okF RX11 43 11 9 := ⟨RX11, TX11, 45, rfl, by decide, List.mem_of_getElem? (i := 1256) (by decide +kernel)⟩
set_option maxRecDepth 100000 in
theorem lf_11_47 : pi_okF RX11 47 11 10 := ⟨RX11, TX11, 45, rfl, by decide, List.mem_of_getElem? (i := 1257) (by decide +kernel)⟩
set_option maxRecDepth 100000 in
theorem lf_11_50 : pi_okF RX11 50 11 20 := ⟨RX11, TX11, 45, rfl, by decide, List.mem_of_getElem? (i := 1267) (by decide +kernel)⟩
set_option maxRecDepth 100000 in
theorem lf_11_53 : pi_okF RX11 53 11 21 := ⟨RX11, TX11, 45, rfl, by decide, List.mem_of_getElem? (i := 1268) (by decide +kernel)⟩
set_option maxRecDepth 100000 in
theorem lf_11_56 : pi_okF RX11 56 11 23 := ⟨RX11, TX11, 45, rfl, by decide, List.mem_of_getElem? (i := 1270) (by decide +kernel)⟩
set_option maxRecDepth 100000 in
theorem lf_11_59 : pi_okF RX11 59 11 24 := ⟨RX11, TX11, 45, rfl, by decide, List.mem_of_getElem? (i := 1271) (by decide +kernel)⟩
set_option maxRecDepth 100000 in
theorem lf_11_62 : pi_okF RX11 62 11 25 := ⟨RX11, TX11, 45, rfl, by decide, List.mem_of_getElem? (i := 1272) (by decide +kernel)⟩
set_option maxRecDepth 100000 in
theorem lf_11_65 : pi_okF RX11 65 11 33 := ⟨RX11, TX11, 45, rfl, by decide, List.mem_of_getElem? (i := 1280) (by decide +kernel)⟩
set_option maxRecDepth 100000 in
theorem lf_11_68 : pi_okF RX11 68 11 35 := ⟨RX11, TX11, 45, rfl, by decide, List.mem_of_getElem? (i := 1282) (by decide +kernel)⟩
set_option maxRecDepth 100000 in
theorem lf_11_71 : pi_okF RX11 71 11 41 := ⟨RX11, TX11, 45, rfl, by decide, List.mem_of_getElem? (i := 1288) (by decide +kernel)⟩
set_option maxRecDepth 100000 in
theorem lf_11_75 : pi_okF RX11 75 11 42 := ⟨RX11, TX11, 45, rfl, by decide, List.mem_of_getElem? (i := 1289) (by decide +kernel)⟩
set_option maxRecDepth 100000 in
theorem lf_11_78 : pi_okF RX11 78 11 43 := ⟨RX11, TX11, 45, rfl, by decide, List.mem_of_getElem? (i := 1290) (by decide +kernel)⟩
set_option maxRecDepth 100000 in
theorem lf_11_81 : pi_okF RX11 81 11 44 := ⟨RX11, TX11, 45, rfl, by decide, List.mem_of_getElem? (i := 1291) (by decide +kernel)⟩
set_option maxRecDepth 100000 in
theorem lf_11_146 : pi_okF RX11 146 11 12 := ⟨RX11, TX11, 45, rfl, by decide, List.mem_of_getElem? (i := 1259) (by decide +kernel)⟩
set_option maxRecDepth 100000 in
theorem lf_11_149 : pi_okF RX11 149 11 13 := ⟨RX11, TX11, 45, rfl, by decide, List.mem_of_getElem? (i := 1260) (by decide +kernel)⟩
set_option maxRecDepth 100000 in
theorem lf_11_152 : pi_okF RX11 152 11 11 := ⟨RX11, TX11, 45, rfl, by decide, List.mem_of_getElem? (i := 1258) (by decide +kernel)⟩
set_option maxRecDepth 100000 in
theorem lf_11_162 : pi_okF RX11 162 11 14 := ⟨RX11, TX11, 45, rfl, by decide, List.mem_of_getElem? (i := 1261) (by decide +kernel)⟩
set_option maxRecDepth 100000 in
theorem lf_11_165 : pi_okF RX11 165 11 17 := ⟨RX11, TX11, 45, rfl, by decide, List.mem_of_getElem? (i := 1264) (by decide +kernel)⟩
set_option maxRecDepth 100000 in
theorem lf_11_169 : pi_okF RX11 169 11 15 := ⟨RX11, TX11, 45, rfl, by decide, List.mem_of_getElem? (i := 1262) (by decide +kernel)⟩
set_option maxRecDepth 100000 in
theorem lf_11_172 : pi_okF RX11 172 11 16 := ⟨RX11, TX11, 45, rfl, by decide, List.mem_of_getElem? (i := 1263) (by decide +kernel)⟩
set_option maxRecDepth 100000 in
theorem lf_11_188 : pi_okF RX11 188 11 18 := ⟨RX11, TX11, 45, rfl, by decide, List.mem_of_getElem? (i := 1265) (by decide +kernel)⟩
set_option maxRecDepth 100000 in
theorem lf_11_235 : pi_okF RX11 235 11 19 := ⟨RX11, TX11, 45, rfl, by decide, List.mem_of_getElem? (i := 1266) (by decide +kernel)⟩
set_option maxRecDepth 100000 in
theorem lf_11_247 : pi_okF RX11 247 11 22 := ⟨RX11, TX11, 45, rfl, by decide, List.mem_of_getElem? (i := 1269) (by decide +kernel)⟩
set_option maxRecDepth 100000 in
theorem lf_11_368 : pi_okF RX11 368 11 26 := ⟨RX11, TX11, 45, rfl, by decide, List.mem_of_getElem? (i := 1273) (by decide +kernel)⟩
set_option maxRecDepth 100000 in
theorem lf_11_383 : pi_okF RX11 383 11 28 := ⟨RX11, TX11, 45, rfl, by decide, List.mem_of_getElem? (i := 1275) (by decide +kernel)⟩
set_option maxRecDepth 100000 in
theorem lf_11_387 : pi_okF RX11 387 11 27 := ⟨RX11, TX11, 45, rfl, by decide, List.mem_of_getElem? (i := 1274) (by decide +kernel)⟩
set_option maxRecDepth 100000 in
theorem lf_11_390 : pi_okF RX11 390 11 30 := ⟨RX11, TX11, 45, rfl, by decide, List.mem_of_getElem? (i := 1277) (by decide +kernel)⟩
set_option maxRecDepth 100000 in
theorem lf_11_393 : pi_okF RX11 393 11 29 := ⟨RX11, TX11, 45, rfl, by decide, List.mem_of_getElem? (i := 1276) (by decide +kernel)⟩
set_option maxRecDepth 100000 in
theorem lf_11_396 : pi_okF RX11 396 11 31 := ⟨RX11, TX11, 45, rfl, by decide, List.mem_of_getElem? (i := 1278) (by decide +kernel)⟩
set_option maxRecDepth 100000 in
theorem lf_11_406 : pi_okF RX11 406 11 32 := ⟨RX11, TX11, 45, rfl, by decide, List.mem_of_getElem? (i := 1279) (by decide +kernel)⟩
set_option maxRecDepth 100000 in
theorem lf_11_421 : pi_okF RX11 421 11 34 := ⟨RX11, TX11, 45, rfl, by decide, List.mem_of_getElem? (i := 1281) (by decide +kernel)⟩
set_option maxRecDepth 100000 in
theorem lf_11_424 : pi_okF RX11 424 11 36 := ⟨RX11, TX11, 45, rfl, by decide, List.mem_of_getElem? (i := 1283) (by decide +kernel)⟩
set_option maxRecDepth 100000 in
theorem lf_11_427 : pi_okF RX11 427 11 38 := ⟨RX11, TX11, 45, rfl, by decide, List.mem_of_getElem? (i := 1285) (by decide +kernel)⟩
set_option maxRecDepth 100000 in
theorem lf_11_433 : pi_okF RX11 433 11 39 := ⟨RX11, TX11, 45, rfl, by decide, List.mem_of_getElem? (i := 1286) (by decide +kernel)⟩
set_option maxRecDepth 100000 in
theorem lf_11_439 : pi_okF RX11 439 11 37 := ⟨RX11, TX11, 45, rfl, by decide, List.mem_of_getElem? (i := 1284) (by decide +kernel)⟩
set_option maxRecDepth 100000 in
theorem lf_11_442 : pi_okF RX11 442 11 40 := ⟨RX11, TX11, 45, rfl, by decide, List.mem_of_getElem? (i := 1287) (by decide +kernel)⟩
theorem lf_a11 : ∀ e ∈ ([(1, 11, 0, 1247), (7, 11, 2, 1249), (14, 11, 1, 1248), (18, 11, 3, 1250), (21, 11, 4, 1251), (24, 11, 5, 1252), (33, 11, 6, 1253), (37, 11, 7, 1254), (40, 11, 8, 1255), (43, 11, 9, 1256), (47, 11, 10, 1257), (50, 11, 20, 1267), (53, 11, 21, 1268), (56, 11, 23, 1270), (59, 11, 24, 1271), (62, 11, 25, 1272), (65, 11, 33, 1280), (68, 11, 35, 1282), (71, 11, 41, 1288), (75, 11, 42, 1289), (78, 11, 43, 1290), (81, 11, 44, 1291), (146, 11, 12, 1259), (149, 11, 13, 1260), (152, 11, 11, 1258), (162, 11, 14, 1261), (165, 11, 17, 1264), (169, 11, 15, 1262), (172, 11, 16, 1263), (188, 11, 18, 1265), (235, 11, 19, 1266), (247, 11, 22, 1269), (368, 11, 26, 1273), (383, 11, 28, 1275), (387, 11, 27, 1274), (390, 11, 30, 1277), (393, 11, 29, 1276), (396, 11, 31, 1278), (406, 11, 32, 1279), (421, 11, 34, 1281), (424, 11, 36, 1283), (427, 11, 38, 1285), (433, 11, 39, 1286), (439, 11, 37, 1284), (442, 11, 40, 1287)] : List (Nat × Nat × Nat × Nat)), pi_okF RX11 e.1 e.2.1 e.2.2.1 := List.forall_mem_cons.mpr ⟨lf_11_1, List.forall_mem_cons.mpr ⟨lf_11_7, List.forall_mem_cons.mpr ⟨lf_11_14, List.forall_mem_cons.mpr ⟨lf_11_18, List.forall_mem_cons.mpr ⟨lf_11_21, List.forall_mem_cons.mpr ⟨lf_11_24, List.forall_mem_cons.mpr ⟨lf_11_33, List.forall_mem_cons.mpr ⟨lf_11_37, List.forall_mem_cons.mpr ⟨lf_11_40, List.forall_mem_cons.mpr ⟨lf_11_43, List.forall_mem_cons.mpr ⟨lf_11_47, List.forall_mem_cons.mpr ⟨lf_11_50, List.forall_mem_cons.mpr ⟨lf_11_53, List.forall_mem_cons.mpr ⟨lf_11_56, List.forall_mem_cons.mpr ⟨lf_11_59, List.forall_mem_cons.mpr ⟨lf_11_62, List.forall_mem_cons.mpr ⟨lf_11_65, List.forall_mem_cons.mpr ⟨lf_11_68, List.forall_mem_cons.mpr ⟨lf_11_71, List.forall_mem_cons.mpr ⟨lf_11_75, List.forall_mem_cons.mpr ⟨lf_11_78, List.forall_mem_cons.mpr ⟨lf_11_81, List.forall_mem_cons.mpr ⟨lf_11_146, List.forall_mem_cons.mpr ⟨lf_11_149, List.forall_mem_cons.mpr ⟨lf_11_152, List.forall_mem_cons.mpr ⟨lf_11_162, List.forall_mem_cons.mpr ⟨lf_11_165, List.forall_mem_cons.mpr ⟨lf_11_169, List.forall_mem_cons.mpr ⟨lf_11_172, List.forall_mem_cons.mpr ⟨lf_11_188, List.forall_mem_cons.mpr ⟨lf_11_235, List.forall_mem_cons.mpr ⟨lf_11_247, List.forall_mem_cons.mpr ⟨lf_11_368, List.forall_mem_cons.mpr ⟨lf_11_383, List.forall_mem_cons.mpr ⟨lf_11_387, List.forall_mem_cons.mpr ⟨lf_11_390, List.forall_mem_cons.mpr ⟨lf_11_393, List.forall_mem_cons.mpr ⟨lf_11_396, List.forall_mem_cons.mpr ⟨lf_11_406, List.forall_mem_cons.mpr ⟨lf_11_421, List.forall_mem_cons.mpr ⟨lf_11_424, List.forall_mem_cons.mpr ⟨lf_11_427, List.forall_mem_cons.mpr ⟨lf_11_433, List.forall_mem_cons.mpr ⟨lf_11_439, List.forall_mem_cons.mpr ⟨lf_11_442, fun _ h => absurd h List.not_mem_nil⟩⟩⟩⟩⟩⟩⟩⟩⟩⟩⟩⟩⟩⟩⟩⟩⟩⟩⟩⟩⟩⟩⟩⟩⟩⟩⟩⟩⟩⟩⟩⟩⟩⟩⟩⟩⟩⟩⟩⟩⟩⟩⟩⟩⟩
theorem lf_a12 : ∀ e ∈ ([] : List (Nat × Nat × Nat × Nat)), pi_okF "java/lang/Integer" e.1 e.2.1 e.2.2.1 := fun _ h => absurd h List.not_mem_nil
theorem lf_all {own : Nat} {C : String} {t : List (Nat × Nat × Nat × Nat)} (hc : pi_cn[own]? = some C) (ht : pi_fT[own]? = some t) : ∀ e ∈ t, pi_okF C e.1 e.2.1 e.2.2.1 := by
  match own, hc, ht with
  | 0, hc, ht => cases hc; cases ht; exact lf_a0
  | 1, hc, ht => cases hc; cases ht; exact lf_a1
  | 2, hc, ht => cases hc; cases ht; exact lf_a2
  | 3, hc, ht => cases hc; cases ht; exact lf_a3
  | 4, hc, ht => cases hc; cases ht; exact lf_a4
  | 5, hc, ht => cases hc; cases ht; exact lf_a5
  | 6, hc, ht => cases hc; cases ht; exact lf_a6
  | 7, hc, ht => cases hc; cases ht; exact lf_a7
  | 8, hc, ht => cases hc; cases ht; exact lf_a8
  | 9, hc, ht => cases hc; cases ht; exact lf_a9
  | 10, hc, ht => cases hc; cases ht; exact lf_a10
  | 11, hc, ht => cases hc; cases ht; exact lf_a11
  | 12, hc, ht => cases hc; cases ht; exact lf_a12
  | _ + 13, hc, _ => exact absurd hc (by simp [pi_cn])
theorem ln_a0 : ∀ e ∈ ([] : List (Nat × Nat × Nat)), pi_okN RX0 e.1 e.2.1 := fun _ h => absurd h List.not_mem_nil
set_option maxRecDepth 100000 in
theorem ln_1_7 : pi_okN RX1 7 2 := ⟨RX2, TX2, 2, rfl, List.mem_of_getElem? (i := 381) (by decide +kernel)⟩
set_option maxRecDepth 100000 in
theorem ln_1_16 : pi_okN RX1 16 4 := ⟨RX4, TX4, 3, rfl, List.mem_of_getElem? (i := 383) (by decide +kernel)⟩
set_option maxRecDepth 100000 in
theorem ln_1_29 : pi_okN RX1 29 7 := ⟨RX7, TX7, 5, rfl, List.mem_of_getElem? (i := 385) (by decide +kernel)⟩
theorem ln_a1 : ∀ e ∈ ([(7, 2, 381), (16, 4, 383), (29, 7, 385)] : List (Nat × Nat × Nat)), pi_okN RX1 e.1 e.2.1 := List.forall_mem_cons.mpr ⟨ln_1_7, List.forall_mem_cons.mpr ⟨ln_1_16, List.forall_mem_cons.mpr ⟨ln_1_29, fun _ h => absurd h List.not_mem_nil⟩⟩⟩
theorem ln_a2 : ∀ e ∈ ([] : List (Nat × Nat × Nat)), pi_okN RX2 e.1 e.2.1 := fun _ h => absurd h List.not_mem_nil
theorem ln_a3 : ∀ e ∈ ([] : List (Nat × Nat × Nat)), pi_okN RX3 e.1 e.2.1 := fun _ h => absurd h List.not_mem_nil
theorem ln_a4 : ∀ e ∈ ([] : List (Nat × Nat × Nat)), pi_okN RX4 e.1 e.2.1 := fun _ h => absurd h List.not_mem_nil
theorem ln_a5 : ∀ e ∈ ([] : List (Nat × Nat × Nat)), pi_okN RX5 e.1 e.2.1 := fun _ h => absurd h List.not_mem_nil
theorem ln_a6 : ∀ e ∈ ([] : List (Nat × Nat × Nat)), pi_okN RX6 e.1 e.2.1 := fun _ h => absurd h List.not_mem_nil
theorem ln_a7 : ∀ e ∈ ([] : List (Nat × Nat × Nat)), pi_okN RX7 e.1 e.2.1 := fun _ h => absurd h List.not_mem_nil
theorem ln_a8 : ∀ e ∈ ([] : List (Nat × Nat × Nat)), pi_okN RX8 e.1 e.2.1 := fun _ h => absurd h List.not_mem_nil
theorem ln_a9 : ∀ e ∈ ([] : List (Nat × Nat × Nat)), pi_okN RX9 e.1 e.2.1 := fun _ h => absurd h List.not_mem_nil
set_option maxRecDepth 100000 in
theorem ln_10_9 : pi_okN RX10 9 9 := ⟨RX9, TX9, 12, rfl, List.mem_of_getElem? (i := 112) (by decide +kernel)⟩
set_option maxRecDepth 100000 in
theorem ln_10_16 : pi_okN RX10 16 2 := ⟨RX2, TX2, 2, rfl, List.mem_of_getElem? (i := 218) (by decide +kernel)⟩
set_option maxRecDepth 100000 in
theorem ln_10_26 : pi_okN RX10 26 3 := ⟨RX3, TX3, 2, rfl, List.mem_of_getElem? (i := 235) (by decide +kernel)⟩
set_option maxRecDepth 100000 in
theorem ln_10_35 : pi_okN RX10 35 4 := ⟨RX4, TX4, 3, rfl, List.mem_of_getElem? (i := 248) (by decide +kernel)⟩
set_option maxRecDepth 100000 in
theorem ln_10_51 : pi_okN RX10 51 5 := ⟨RX5, TX5, 3, rfl, List.mem_of_getElem? (i := 267) (by decide +kernel)⟩
set_option maxRecDepth 100000 in
theorem ln_10_58 : pi_okN RX10 58 7 := ⟨RX7, TX7, 5, rfl, List.mem_of_getElem? (i := 283) (by decide +kernel)⟩
set_option maxRecDepth 100000 in
theorem ln_10_68 : pi_okN RX10 68 8 := ⟨RX8, TX8, 4, rfl, List.mem_of_getElem? (i := 306) (by decide +kernel)⟩
set_option maxRecDepth 100000 in
theorem ln_10_77 : pi_okN RX10 77 0 := ⟨RX0, TX0, 6, rfl, List.mem_of_getElem? (i := 325) (by decide +kernel)⟩
set_option maxRecDepth 100000 in
theorem ln_10_84 : pi_okN RX10 84 6 := ⟨RX6, TX6, 4, rfl, List.mem_of_getElem? (i := 354) (by decide +kernel)⟩
set_option maxRecDepth 100000 in
theorem ln_10_94 : pi_okN RX10 94 1 := ⟨RX1, TX1, 4, rfl, List.mem_of_getElem? (i := 375) (by decide +kernel)⟩
theorem ln_a10 : ∀ e ∈ ([(9, 9, 112), (16, 2, 218), (26, 3, 235), (35, 4, 248), (51, 5, 267), (58, 7, 283), (68, 8, 306), (77, 0, 325), (84, 6, 354), (94, 1, 375)] : List (Nat × Nat × Nat)), pi_okN RX10 e.1 e.2.1 := List.forall_mem_cons.mpr ⟨ln_10_9, List.forall_mem_cons.mpr ⟨ln_10_16, List.forall_mem_cons.mpr ⟨ln_10_26, List.forall_mem_cons.mpr ⟨ln_10_35, List.forall_mem_cons.mpr ⟨ln_10_51, List.forall_mem_cons.mpr ⟨ln_10_58, List.forall_mem_cons.mpr ⟨ln_10_68, List.forall_mem_cons.mpr ⟨ln_10_77, List.forall_mem_cons.mpr ⟨ln_10_84, List.forall_mem_cons.mpr ⟨ln_10_94, fun _ h => absurd h List.not_mem_nil⟩⟩⟩⟩⟩⟩⟩⟩⟩⟩
theorem ln_a11 : ∀ e ∈ ([] : List (Nat × Nat × Nat)), pi_okN RX11 e.1 e.2.1 := fun _ h => absurd h List.not_mem_nil
theorem ln_a12 : ∀ e ∈ ([] : List (Nat × Nat × Nat)), pi_okN "java/lang/Integer" e.1 e.2.1 := fun _ h => absurd h List.not_mem_nil
theorem ln_all {own : Nat} {C : String} {t : List (Nat × Nat × Nat)} (hc : pi_cn[own]? = some C) (ht : pi_nT[own]? = some t) : ∀ e ∈ t, pi_okN C e.1 e.2.1 := by
  match own, hc, ht with
  | 0, hc, ht => cases hc; cases ht; exact ln_a0
  | 1, hc, ht => cases hc; cases ht; exact ln_a1
  | 2, hc, ht => cases hc; cases ht; exact ln_a2
  | 3, hc, ht => cases hc; cases ht; exact ln_a3
  | 4, hc, ht => cases hc; cases ht; exact ln_a4
  | 5, hc, ht => cases hc; cases ht; exact ln_a5
  | 6, hc, ht => cases hc; cases ht; exact ln_a6
  | 7, hc, ht => cases hc; cases ht; exact ln_a7
  | 8, hc, ht => cases hc; cases ht; exact ln_a8
  | 9, hc, ht => cases hc; cases ht; exact ln_a9
  | 10, hc, ht => cases hc; cases ht; exact ln_a10
  | 11, hc, ht => cases hc; cases ht; exact ln_a11
  | 12, hc, ht => cases hc; cases ht; exact ln_a12
  | _ + 13, hc, _ => exact absurd hc (by simp [pi_cn])
theorem ll_a0 : ∀ e ∈ ([] : List (Nat × Int32 × Nat)), pi_okL RX0 e.1 e.2.1 := fun _ h => absurd h List.not_mem_nil
theorem ll_a1 : ∀ e ∈ ([] : List (Nat × Int32 × Nat)), pi_okL RX1 e.1 e.2.1 := fun _ h => absurd h List.not_mem_nil
theorem ll_a2 : ∀ e ∈ ([] : List (Nat × Int32 × Nat)), pi_okL RX2 e.1 e.2.1 := fun _ h => absurd h List.not_mem_nil
theorem ll_a3 : ∀ e ∈ ([] : List (Nat × Int32 × Nat)), pi_okL RX3 e.1 e.2.1 := fun _ h => absurd h List.not_mem_nil
set_option maxRecDepth 100000 in
theorem ll_4_100 : pi_okL RX4 100 1103515245 := List.mem_of_getElem? (i := 984) (by decide +kernel)
theorem ll_a4 : ∀ e ∈ ([(100, 1103515245, 984)] : List (Nat × Int32 × Nat)), pi_okL RX4 e.1 e.2.1 := List.forall_mem_cons.mpr ⟨ll_4_100, fun _ h => absurd h List.not_mem_nil⟩
theorem ll_a5 : ∀ e ∈ ([] : List (Nat × Int32 × Nat)), pi_okL RX5 e.1 e.2.1 := fun _ h => absurd h List.not_mem_nil
theorem ll_a6 : ∀ e ∈ ([] : List (Nat × Int32 × Nat)), pi_okL RX6 e.1 e.2.1 := fun _ h => absurd h List.not_mem_nil
theorem ll_a7 : ∀ e ∈ ([] : List (Nat × Int32 × Nat)), pi_okL RX7 e.1 e.2.1 := fun _ h => absurd h List.not_mem_nil
theorem ll_a8 : ∀ e ∈ ([] : List (Nat × Int32 × Nat)), pi_okL RX8 e.1 e.2.1 := fun _ h => absurd h List.not_mem_nil
theorem ll_a9 : ∀ e ∈ ([] : List (Nat × Int32 × Nat)), pi_okL RX9 e.1 e.2.1 := fun _ h => absurd h List.not_mem_nil
theorem ll_a10 : ∀ e ∈ ([] : List (Nat × Int32 × Nat)), pi_okL RX10 e.1 e.2.1 := fun _ h => absurd h List.not_mem_nil
set_option maxRecDepth 100000 in
theorem ll_11_399 : pi_okL RX11 399 1103515245 := List.mem_of_getElem? (i := 1772) (by decide +kernel)
theorem ll_a11 : ∀ e ∈ ([(399, 1103515245, 1772)] : List (Nat × Int32 × Nat)), pi_okL RX11 e.1 e.2.1 := List.forall_mem_cons.mpr ⟨ll_11_399, fun _ h => absurd h List.not_mem_nil⟩
set_option maxRecDepth 100000 in
theorem ll_12_265 : pi_okL "java/lang/Integer" 265 1431655765 := List.mem_of_getElem? (i := 708) (by decide +kernel)
set_option maxRecDepth 100000 in
theorem ll_12_266 : pi_okL "java/lang/Integer" 266 858993459 := List.mem_of_getElem? (i := 709) (by decide +kernel)
set_option maxRecDepth 100000 in
theorem ll_12_267 : pi_okL "java/lang/Integer" 267 252645135 := List.mem_of_getElem? (i := 710) (by decide +kernel)
theorem ll_a12 : ∀ e ∈ ([(265, 1431655765, 708), (266, 858993459, 709), (267, 252645135, 710)] : List (Nat × Int32 × Nat)), pi_okL "java/lang/Integer" e.1 e.2.1 := List.forall_mem_cons.mpr ⟨ll_12_265, List.forall_mem_cons.mpr ⟨ll_12_266, List.forall_mem_cons.mpr ⟨ll_12_267, fun _ h => absurd h List.not_mem_nil⟩⟩⟩
theorem ll_all {own : Nat} {C : String} {t : List (Nat × Int32 × Nat)} (hc : pi_cn[own]? = some C) (ht : pi_lT[own]? = some t) : ∀ e ∈ t, pi_okL C e.1 e.2.1 := by
  match own, hc, ht with
  | 0, hc, ht => cases hc; cases ht; exact ll_a0
  | 1, hc, ht => cases hc; cases ht; exact ll_a1
  | 2, hc, ht => cases hc; cases ht; exact ll_a2
  | 3, hc, ht => cases hc; cases ht; exact ll_a3
  | 4, hc, ht => cases hc; cases ht; exact ll_a4
  | 5, hc, ht => cases hc; cases ht; exact ll_a5
  | 6, hc, ht => cases hc; cases ht; exact ll_a6
  | 7, hc, ht => cases hc; cases ht; exact ll_a7
  | 8, hc, ht => cases hc; cases ht; exact ll_a8
  | 9, hc, ht => cases hc; cases ht; exact ll_a9
  | 10, hc, ht => cases hc; cases ht; exact ll_a10
  | 11, hc, ht => cases hc; cases ht; exact ll_a11
  | 12, hc, ht => cases hc; cases ht; exact ll_a12
  | _ + 13, hc, _ => exact absurd hc (by simp [pi_cn])
theorem lq_a0 : ∀ e ∈ ([] : List (Nat × Int64 × Nat)), pi_okQ RX0 e.1 e.2.1 := fun _ h => absurd h List.not_mem_nil
theorem lq_a1 : ∀ e ∈ ([] : List (Nat × Int64 × Nat)), pi_okQ RX1 e.1 e.2.1 := fun _ h => absurd h List.not_mem_nil
theorem lq_a2 : ∀ e ∈ ([] : List (Nat × Int64 × Nat)), pi_okQ RX2 e.1 e.2.1 := fun _ h => absurd h List.not_mem_nil
theorem lq_a3 : ∀ e ∈ ([] : List (Nat × Int64 × Nat)), pi_okQ RX3 e.1 e.2.1 := fun _ h => absurd h List.not_mem_nil
theorem lq_a4 : ∀ e ∈ ([] : List (Nat × Int64 × Nat)), pi_okQ RX4 e.1 e.2.1 := fun _ h => absurd h List.not_mem_nil
theorem lq_a5 : ∀ e ∈ ([] : List (Nat × Int64 × Nat)), pi_okQ RX5 e.1 e.2.1 := fun _ h => absurd h List.not_mem_nil
theorem lq_a6 : ∀ e ∈ ([] : List (Nat × Int64 × Nat)), pi_okQ RX6 e.1 e.2.1 := fun _ h => absurd h List.not_mem_nil
theorem lq_a7 : ∀ e ∈ ([] : List (Nat × Int64 × Nat)), pi_okQ RX7 e.1 e.2.1 := fun _ h => absurd h List.not_mem_nil
theorem lq_a8 : ∀ e ∈ ([] : List (Nat × Int64 × Nat)), pi_okQ RX8 e.1 e.2.1 := fun _ h => absurd h List.not_mem_nil
set_option maxRecDepth 100000 in
theorem lq_9_31 : pi_okQ RX9 31 (32 : Int64) := List.mem_of_getElem? (i := 167) (by decide +kernel)
theorem lq_a9 : ∀ e ∈ ([(31, (32 : Int64), 167)] : List (Nat × Int64 × Nat)), pi_okQ RX9 e.1 e.2.1 := List.forall_mem_cons.mpr ⟨lq_9_31, fun _ h => absurd h List.not_mem_nil⟩
theorem lq_a10 : ∀ e ∈ ([] : List (Nat × Int64 × Nat)), pi_okQ RX10 e.1 e.2.1 := fun _ h => absurd h List.not_mem_nil
set_option maxRecDepth 100000 in
theorem lq_11_84 : pi_okQ RX11 84 (482854658917 : Int64) := List.mem_of_getElem? (i := 1218) (by decide +kernel)
set_option maxRecDepth 100000 in
theorem lq_11_86 : pi_okQ RX11 86 (1919902052 : Int64) := List.mem_of_getElem? (i := 1219) (by decide +kernel)
set_option maxRecDepth 100000 in
theorem lq_11_88 : pi_okQ RX11 88 (1684366692 : Int64) := List.mem_of_getElem? (i := 1220) (by decide +kernel)
set_option maxRecDepth 100000 in
theorem lq_11_90 : pi_okQ RX11 90 (7102839 : Int64) := List.mem_of_getElem? (i := 1221) (by decide +kernel)
set_option maxRecDepth 100000 in
theorem lq_11_92 : pi_okQ RX11 92 (125780002955628 : Int64) := List.mem_of_getElem? (i := 1222) (by decide +kernel)
set_option maxRecDepth 100000 in
theorem lq_11_94 : pi_okQ RX11 94 (7168366 : Int64) := List.mem_of_getElem? (i := 1223) (by decide +kernel)
set_option maxRecDepth 100000 in
theorem lq_11_96 : pi_okQ RX11 96 (491496238692 : Int64) := List.mem_of_getElem? (i := 1224) (by decide +kernel)
set_option maxRecDepth 100000 in
theorem lq_11_98 : pi_okQ RX11 98 (427020350059 : Int64) := List.mem_of_getElem? (i := 1225) (by decide +kernel)
set_option maxRecDepth 100000 in
theorem lq_11_100 : pi_okQ RX11 100 (1886352244 : Int64) := List.mem_of_getElem? (i := 1226) (by decide +kernel)
set_option maxRecDepth 100000 in
theorem lq_11_102 : pi_okQ RX11 102 (1735353715 : Int64) := List.mem_of_getElem? (i := 1227) (by decide +kernel)
set_option maxRecDepth 100000 in
theorem lq_11_104 : pi_okQ RX11 104 (1685022067 : Int64) := List.mem_of_getElem? (i := 1228) (by decide +kernel)
set_option maxRecDepth 100000 in
theorem lq_11_106 : pi_okQ RX11 106 (512801993331 : Int64) := List.mem_of_getElem? (i := 1229) (by decide +kernel)
set_option maxRecDepth 100000 in
theorem lq_11_108 : pi_okQ RX11 108 (422541682035 : Int64) := List.mem_of_getElem? (i := 1230) (by decide +kernel)
set_option maxRecDepth 100000 in
theorem lq_11_110 : pi_okQ RX11 110 (112585964089971 : Int64) := List.mem_of_getElem? (i := 1231) (by decide +kernel)
set_option maxRecDepth 100000 in
theorem lq_11_112 : pi_okQ RX11 112 (482906174579 : Int64) := List.mem_of_getElem? (i := 1232) (by decide +kernel)
set_option maxRecDepth 100000 in
theorem lq_11_114 : pi_okQ RX11 114 (491260571251 : Int64) := List.mem_of_getElem? (i := 1233) (by decide +kernel)
set_option maxRecDepth 100000 in
theorem lq_11_116 : pi_okQ RX11 116 (6578553 : Int64) := List.mem_of_getElem? (i := 1234) (by decide +kernel)
set_option maxRecDepth 100000 in
theorem lq_11_118 : pi_okQ RX11 118 (28530 : Int64) := List.mem_of_getElem? (i := 1235) (by decide +kernel)
set_option maxRecDepth 100000 in
theorem lq_11_120 : pi_okQ RX11 120 (6385252 : Int64) := List.mem_of_getElem? (i := 1236) (by decide +kernel)
set_option maxRecDepth 100000 in
theorem lq_11_122 : pi_okQ RX11 122 (7237492 : Int64) := List.mem_of_getElem? (i := 1237) (by decide +kernel)
set_option maxRecDepth 100000 in
theorem lq_11_124 : pi_okQ RX11 124 (422725643876 : Int64) := List.mem_of_getElem? (i := 1238) (by decide +kernel)
set_option maxRecDepth 100000 in
theorem lq_11_126 : pi_okQ RX11 126 (1718773093 : Int64) := List.mem_of_getElem? (i := 1239) (by decide +kernel)
set_option maxRecDepth 100000 in
theorem lq_11_128 : pi_okQ RX11 128 (422776761956 : Int64) := List.mem_of_getElem? (i := 1240) (by decide +kernel)
set_option maxRecDepth 100000 in
theorem lq_11_130 : pi_okQ RX11 130 (7168377 : Int64) := List.mem_of_getElem? (i := 1241) (by decide +kernel)
set_option maxRecDepth 100000 in
theorem lq_11_132 : pi_okQ RX11 132 (26990 : Int64) := List.mem_of_getElem? (i := 1242) (by decide +kernel)
set_option maxRecDepth 100000 in
theorem lq_11_134 : pi_okQ RX11 134 (495689623668 : Int64) := List.mem_of_getElem? (i := 1243) (by decide +kernel)
set_option maxRecDepth 100000 in
theorem lq_11_136 : pi_okQ RX11 136 (512970876019 : Int64) := List.mem_of_getElem? (i := 1244) (by decide +kernel)
set_option maxRecDepth 100000 in
theorem lq_11_138 : pi_okQ RX11 138 (6580580 : Int64) := List.mem_of_getElem? (i := 1245) (by decide +kernel)
set_option maxRecDepth 100000 in
theorem lq_11_140 : pi_okQ RX11 140 (121450625394034 : Int64) := List.mem_of_getElem? (i := 1246) (by decide +kernel)
theorem lq_a11 : ∀ e ∈ ([(84, (482854658917 : Int64), 1218), (86, (1919902052 : Int64), 1219), (88, (1684366692 : Int64), 1220), (90, (7102839 : Int64), 1221), (92, (125780002955628 : Int64), 1222), (94, (7168366 : Int64), 1223), (96, (491496238692 : Int64), 1224), (98, (427020350059 : Int64), 1225), (100, (1886352244 : Int64), 1226), (102, (1735353715 : Int64), 1227), (104, (1685022067 : Int64), 1228), (106, (512801993331 : Int64), 1229), (108, (422541682035 : Int64), 1230), (110, (112585964089971 : Int64), 1231), (112, (482906174579 : Int64), 1232), (114, (491260571251 : Int64), 1233), (116, (6578553 : Int64), 1234), (118, (28530 : Int64), 1235), (120, (6385252 : Int64), 1236), (122, (7237492 : Int64), 1237), (124, (422725643876 : Int64), 1238), (126, (1718773093 : Int64), 1239), (128, (422776761956 : Int64), 1240), (130, (7168377 : Int64), 1241), (132, (26990 : Int64), 1242), (134, (495689623668 : Int64), 1243), (136, (512970876019 : Int64), 1244), (138, (6580580 : Int64), 1245), (140, (121450625394034 : Int64), 1246)] : List (Nat × Int64 × Nat)), pi_okQ RX11 e.1 e.2.1 := List.forall_mem_cons.mpr ⟨lq_11_84, List.forall_mem_cons.mpr ⟨lq_11_86, List.forall_mem_cons.mpr ⟨lq_11_88, List.forall_mem_cons.mpr ⟨lq_11_90, List.forall_mem_cons.mpr ⟨lq_11_92, List.forall_mem_cons.mpr ⟨lq_11_94, List.forall_mem_cons.mpr ⟨lq_11_96, List.forall_mem_cons.mpr ⟨lq_11_98, List.forall_mem_cons.mpr ⟨lq_11_100, List.forall_mem_cons.mpr ⟨lq_11_102, List.forall_mem_cons.mpr ⟨lq_11_104, List.forall_mem_cons.mpr ⟨lq_11_106, List.forall_mem_cons.mpr ⟨lq_11_108, List.forall_mem_cons.mpr ⟨lq_11_110, List.forall_mem_cons.mpr ⟨lq_11_112, List.forall_mem_cons.mpr ⟨lq_11_114, List.forall_mem_cons.mpr ⟨lq_11_116, List.forall_mem_cons.mpr ⟨lq_11_118, List.forall_mem_cons.mpr ⟨lq_11_120, List.forall_mem_cons.mpr ⟨lq_11_122, List.forall_mem_cons.mpr ⟨lq_11_124, List.forall_mem_cons.mpr ⟨lq_11_126, List.forall_mem_cons.mpr ⟨lq_11_128, List.forall_mem_cons.mpr ⟨lq_11_130, List.forall_mem_cons.mpr ⟨lq_11_132, List.forall_mem_cons.mpr ⟨lq_11_134, List.forall_mem_cons.mpr ⟨lq_11_136, List.forall_mem_cons.mpr ⟨lq_11_138, List.forall_mem_cons.mpr ⟨lq_11_140, fun _ h => absurd h List.not_mem_nil⟩⟩⟩⟩⟩⟩⟩⟩⟩⟩⟩⟩⟩⟩⟩⟩⟩⟩⟩⟩⟩⟩⟩⟩⟩⟩⟩⟩⟩
theorem lq_a12 : ∀ e ∈ ([] : List (Nat × Int64 × Nat)), pi_okQ "java/lang/Integer" e.1 e.2.1 := fun _ h => absurd h List.not_mem_nil
theorem lq_all {own : Nat} {C : String} {t : List (Nat × Int64 × Nat)} (hc : pi_cn[own]? = some C) (ht : pi_qT[own]? = some t) : ∀ e ∈ t, pi_okQ C e.1 e.2.1 := by
  match own, hc, ht with
  | 0, hc, ht => cases hc; cases ht; exact lq_a0
  | 1, hc, ht => cases hc; cases ht; exact lq_a1
  | 2, hc, ht => cases hc; cases ht; exact lq_a2
  | 3, hc, ht => cases hc; cases ht; exact lq_a3
  | 4, hc, ht => cases hc; cases ht; exact lq_a4
  | 5, hc, ht => cases hc; cases ht; exact lq_a5
  | 6, hc, ht => cases hc; cases ht; exact lq_a6
  | 7, hc, ht => cases hc; cases ht; exact lq_a7
  | 8, hc, ht => cases hc; cases ht; exact lq_a8
  | 9, hc, ht => cases hc; cases ht; exact lq_a9
  | 10, hc, ht => cases hc; cases ht; exact lq_a10
  | 11, hc, ht => cases hc; cases ht; exact lq_a11
  | 12, hc, ht => cases hc; cases ht; exact lq_a12
  | _ + 13, hc, _ => exact absurd hc (by simp [pi_cn])
set_option maxRecDepth 100000 in
theorem lc_0 : pi_okC 0 RX0 TX0 6 := ⟨rfl, inX0, tyX0_ok, nmX0, List.mem_of_getElem? (i := 326) (by decide +kernel), List.mem_of_getElem? (i := 93) (by decide +kernel), by decide +kernel⟩
set_option maxRecDepth 100000 in
theorem lc_1 : pi_okC 1 RX1 TX1 4 := ⟨rfl, inX1, tyX1_ok, nmX1, List.mem_of_getElem? (i := 376) (by decide +kernel), List.mem_of_getElem? (i := 95) (by decide +kernel), by decide +kernel⟩
set_option maxRecDepth 100000 in
theorem lc_2 : pi_okC 2 RX2 TX2 2 := ⟨rfl, inX2, tyX2_ok, nmX2, List.mem_of_getElem? (i := 219) (by decide +kernel), List.mem_of_getElem? (i := 87) (by decide +kernel), by decide +kernel⟩
set_option maxRecDepth 100000 in
theorem lc_3 : pi_okC 3 RX3 TX3 2 := ⟨rfl, inX3, tyX3_ok, nmX3, List.mem_of_getElem? (i := 236) (by decide +kernel), List.mem_of_getElem? (i := 88) (by decide +kernel), by decide +kernel⟩
set_option maxRecDepth 100000 in
theorem lc_4 : pi_okC 4 RX4 TX4 3 := ⟨rfl, inX4, tyX4_ok, nmX4, List.mem_of_getElem? (i := 249) (by decide +kernel), List.mem_of_getElem? (i := 89) (by decide +kernel), by decide +kernel⟩
set_option maxRecDepth 100000 in
theorem lc_5 : pi_okC 5 RX5 TX5 3 := ⟨rfl, inX5, tyX5_ok, nmX5, List.mem_of_getElem? (i := 268) (by decide +kernel), List.mem_of_getElem? (i := 90) (by decide +kernel), by decide +kernel⟩
set_option maxRecDepth 100000 in
theorem lc_6 : pi_okC 6 RX6 TX6 4 := ⟨rfl, inX6, tyX6_ok, nmX6, List.mem_of_getElem? (i := 355) (by decide +kernel), List.mem_of_getElem? (i := 94) (by decide +kernel), by decide +kernel⟩
set_option maxRecDepth 100000 in
theorem lc_7 : pi_okC 7 RX7 TX7 5 := ⟨rfl, inX7, tyX7_ok, nmX7, List.mem_of_getElem? (i := 284) (by decide +kernel), List.mem_of_getElem? (i := 91) (by decide +kernel), by decide +kernel⟩
set_option maxRecDepth 100000 in
theorem lc_8 : pi_okC 8 RX8 TX8 4 := ⟨rfl, inX8, tyX8_ok, nmX8, List.mem_of_getElem? (i := 307) (by decide +kernel), List.mem_of_getElem? (i := 92) (by decide +kernel), by decide +kernel⟩
set_option maxRecDepth 100000 in
theorem lc_9 : pi_okC 9 RX9 TX9 12 := ⟨rfl, inX9, tyX9_ok, nmX9, List.mem_of_getElem? (i := 113) (by decide +kernel), List.mem_of_getElem? (i := 82) (by decide +kernel), by decide +kernel⟩
set_option maxRecDepth 100000 in
theorem lc_10 : pi_okC 10 RX10 TX10 19 := ⟨rfl, inX10, tyX10_ok, nmX10, List.mem_of_getElem? (i := 105) (by decide +kernel), List.mem_of_getElem? (i := 81) (by decide +kernel), by decide +kernel⟩
set_option maxRecDepth 100000 in
theorem lc_11 : pi_okC 11 RX11 TX11 45 := ⟨rfl, inX11, tyX11_ok, nmX11, List.mem_of_getElem? (i := 1207) (by decide +kernel), List.mem_of_getElem? (i := 96) (by decide +kernel), by decide +kernel⟩
theorem lc_all {ci : Nat} {C : String} {T : u_T} {N : Nat} (h : vwCl[ci]? = some (C, T, N)) : pi_okC ci C T N := by
  match ci, h with
  | 0, h => cases h; exact lc_0
  | 1, h => cases h; exact lc_1
  | 2, h => cases h; exact lc_2
  | 3, h => cases h; exact lc_3
  | 4, h => cases h; exact lc_4
  | 5, h => cases h; exact lc_5
  | 6, h => cases h; exact lc_6
  | 7, h => cases h; exact lc_7
  | 8, h => cases h; exact lc_8
  | 9, h => cases h; exact lc_9
  | 10, h => cases h; exact lc_10
  | 11, h => cases h; exact lc_11
  | _ + 12, h => exact absurd h (by simp [vwCl])
set_option maxRecDepth 100000 in
theorem mo_all : ∀ q ∈ pi_mt.zip pi_mk, pi_okM q.1 q.2.1 q.2.2 := by
  intro q hq
  have e : pi_mt.zip pi_mk = pi_mt_0.zip pi_mk_0 ++ (pi_mt_1.zip pi_mk_1 ++ (pi_mt_2.zip pi_mk_2 ++ (pi_mt_3.zip pi_mk_3 ++ (pi_mt_4.zip pi_mk_4 ++ (pi_mt_5.zip pi_mk_5))))) := rfl
  rw [e] at hq
  simp only [List.mem_append] at hq
  rcases hq with h | h | h | h | h | h
  · exact mo_all_0 q h
  · exact mo_all_1 q h
  · exact mo_all_2 q h
  · exact mo_all_3 q h
  · exact mo_all_4 q h
  · exact mo_all_5 q h
theorem mo_of {z na : Nat} {st : Bool} {e : pi_ME} (h : pi_mt[z]? = some e) (h2 : pi_mk[z]? = some (na, st)) : pi_okM e na st := by
  refine mo_all (e, na, st) (List.mem_of_getElem? (i := z) ?_)
  rw [List.getElem?_zip_eq_some]
  exact ⟨h, h2⟩
end
section
/-! ===== the pure interpreter's steps are the machine's ===== -/
def pi_rv (ad : Nat → Nat) (v : Value) : Value := match v with
  | .ref a => .ref (ad a)
  | v => v
theorem pi_rv_cat (ad : Nat → Nat) (v : Value) : (pi_rv ad v).category = v.category := by cases v <;> rfl
def pi_rL (ad : Nat → Nat) (lv : pi_L) : List (Nat × Value) := lv.map (fun q => (q.1, pi_rv ad q.2))
def pi_rE (cA : Nat → ClassId) (ad : Nat → Nat) (e : pi_E) : va_E := match e with
  | .inl (t, a) => .inl (cA t, a)
  | .inr (c, fs) => .inr (c, fs.map (pi_rv ad))
def pi_rW (cA : Nat → ClassId) (ad : Nat → Nat) (w : pi_W) : va_W := w.mapIdx (fun k e => (ad k, pi_rE cA ad e))
theorem pi_rW_get (cA : Nat → ClassId) (ad : Nat → Nat) (w : pi_W) (k : Nat) : (pi_rW cA ad w)[k]? = (w[k]?).map (fun e => (ad k, pi_rE cA ad e)) := by simp [pi_rW, List.getElem?_mapIdx]
theorem pi_rW_len (cA : Nat → ClassId) (ad : Nat → Nat) (w : pi_W) : (pi_rW cA ad w).length = w.length := by simp [pi_rW]
theorem pi_rW_set (cA : Nat → ClassId) (ad : Nat → Nat) (w : pi_W) (k : Nat) (e : pi_E) : pi_rW cA ad (w.set k e) = (pi_rW cA ad w).set k (ad k, pi_rE cA ad e) := by
  apply List.ext_getElem?
  intro j
  rw [pi_rW_get, List.getElem?_set, List.getElem?_set, pi_rW_get, pi_rW_len]
  by_cases h : k = j
  · subst h
    by_cases h2 : k < w.length <;> simp [h2]
  · simp [h]
theorem pi_rL_set (ad : Nat → Nat) (lv : pi_L) (i : Nat) (v : Value) : (i, pi_rv ad v) :: (pi_rL ad lv).filter (fun q => !(q.1 == i) && !(q.1 + 1 == i && q.2.category == 2)) = pi_rL ad (pi_set lv i v) := by
  simp only [pi_set, pi_rL, List.map_cons, List.filter_map]
  congr 2
  refine List.filter_congr fun q _ => ?_
  simp [pi_rv_cat]
theorem pi_get_mem {lv : pi_L} {i : Nat} {v : Value} (h : pi_get lv i = some v) : (i, v) ∈ lv := by
  unfold pi_get at h
  cases hf : lv.find? (fun q => q.1 == i) with
  | none => rw [hf] at h; cases h
  | some q =>
    rw [hf] at h
    cases h
    have h1 := List.find?_some hf
    have h2 := List.mem_of_find?_eq_some hf
    have h3 : q.1 = i := by simpa using h1
    rw [← h3]
    exact h2
theorem pi_rL_mem {ad : Nat → Nat} {lv : pi_L} {i : Nat} {v : Value} (h : pi_get lv i = some v) : (i, pi_rv ad v) ∈ pi_rL ad lv := List.mem_map.mpr ⟨(i, v), pi_get_mem h, rfl⟩
theorem pi_rL_at {ad : Nat → Nat} {lv : pi_L} {i nL : Nat} {v : Value} {ls : Array Slot} (hl : lv_has ls nL (pi_rL ad lv)) (h : pi_get lv i = some v) : ls[i]? = some (.val (pi_rv ad v)) := hl.2.2 _ (pi_rL_mem h)
theorem pi_look_mem {α : Type} {T : List (List (Nat × α))} {own cp : Nat} {a : α} (h : pi_look T own cp = some a) : ∃ t, T[own]? = some t ∧ (cp, a) ∈ t := by
  unfold pi_look at h
  cases ht : T[own]? with
  | none => rw [ht] at h; cases h
  | some t =>
    rw [ht] at h
    refine ⟨t, rfl, ?_⟩
    dsimp only at h
    cases hf : t.find? (fun q => q.1 == cp) with
    | none => rw [hf] at h; cases h
    | some q =>
      rw [hf] at h
      cases h
      have h1 := List.find?_some hf
      have h2 := List.mem_of_find?_eq_some hf
      have h3 : q.1 = cp := by simpa using h1
      rw [← h3]
      exact h2
def pi_tys (cA : Nat → ClassId) : List (ClassId × FieldType) := [(cA 0, .int), (cA 1, .byte), (cA 2, .long), (cA 3, .boolean)]
def pi_text : String := "place road deed law repeal man round clerk post goes does wears bares fevers posts rains day or and not blind free bound may in sight words did number"
/-- what is known of the tables and the String constant at a state -/
def pi_K (D : va_G) (cA : Nat → ClassId) (sa sv : Nat) (A : Nat → Prop) (U : State) : Prop := va_K D vwCl (pi_tys cA) U ∧ (∀ w ∈ pi_nest, va_Nw w U) ∧ vk_R "ReadBound$Tokens" 19 pi_text sa U ∧ vk_S 1 [pi_bytes.length] [pi_bytes] (fun _ => sa) (fun _ => sv) A U U.heap ∧ va_Z "java/lang/String" "COMPACT_STRINGS" "Z" (.int 1) A U U.heap ∧ va_Zq "jdk/internal/util/Preconditions" "SIOOBE_FORMATTER" "Ljava/util/function/BiFunction;" A U U.heap
def pi_Cx (p : Program) (s : State) (m : MethodId) (args : Array Value) (meth : Method) (c : Code) (y : MethodName) (cc : ByteArray) (mi : pi_M) (D : va_G) (cA : Nat → ClassId) (sa sv : Nat) (A : Nat → Prop) : Prop :=
  p.tables.exec = Jvm.exec ∧ c.code = cc ∧ s.vm.findClass y.cls = some m.cls ∧ (∀ w ∈ pi_good, w.before args s = true) ∧ pi_K D cA sa sv A s ∧ c.maxLocals = mi.2.1 ∧ meth.sig.returnType = mi.2.2.1 ∧ meth.locks = false ∧ meth.name = y.name ∧ (mi.2.2.2.1 = true → y.name = "<init>") ∧ pi_cn[mi.1]? = some y.cls ∧ ∀ q, s.heap.size ≤ q → A q
def pi_Wat (p : Program) (l : Launch) (e : Env) (R : Room) (s : State) (m : MethodId) (args : Array Value) (below : List Frame) (meth : Method) (c : Code) (Q : State → Prop) (D : va_G) (cA : Nat → ClassId) (A : Nat → Prop) (nL : Nat) (ad : Nat → Nat) (σ : pi_S) (cu su : Nat) : Prop :=
  ∀ (H : Heap) (locs : List Loc) (ls : Array Slot), va_P D vwCl (pi_rW cA ad σ.2.2.2) H → va_D A (pi_rW cA ad σ.2.2.2) → va_S A s.heap H locs → lv_has ls nL (pi_rL ad σ.2.1) → W p l e R s m args below meth c H locs cu su Q (F0 m σ.1 ls (σ.2.2.1.map (pi_rv ad)))
theorem pi_lays_good {C : String} {T : u_T} {N : Nat} {w : Cond} (h : w ∈ u_ws C T N) : goodWord w = true := by
  obtain ⟨k, -, rfl⟩ := List.mem_map.mp h
  unfold u_lay
  split <;> rfl
theorem pi_nar {ad : Nat → Nat} {ty : FieldType} {v : Value} (h : narrow ty v = v) : narrow ty (pi_rv ad v) = pi_rv ad v := by
  cases v <;> first | exact h | (cases ty <;> rfl)
theorem pi_fit {ad : Nat → Nat} {ty : FieldType} {v : Value} (h : fits ty v = true) : fits ty (pi_rv ad v) = true := by
  cases v <;> first | exact h | (cases ty <;> first | rfl | exact h)
theorem pi_tgt_of {pc t : Nat} {off : Int} (h : pi_tgt pc off = some t) : (pc : Int) + off = (t : Int) := by
  unfold pi_tgt at h
  split at h
  · rename_i h0
    have h1 := Option.some.inj h
    rw [← h1]
    omega
  · cases h
theorem pi_jump_of {t : Option Nat} {lv : pi_L} {st : List Value} {w : pi_W} {σ : pi_S} (h : pi_jump t lv st w = some σ) : ∃ t', t = some t' ∧ σ = (t', lv, st, w) := by
  cases t with
  | none => cases h
  | some t => cases h; exact ⟨t, rfl, rfl⟩
section PIW
variable {p : Program} {l : Launch} {e : Env} {R : Room} {s : State} {m : MethodId} {args : Array Value} {below : List Frame} {meth : Method} {c : Code} {Q : State → Prop} {D : va_G} {cA : Nat → ClassId} {sa sv : Nat} {A : Nat → Prop} {y : MethodName} {cc : ByteArray} {mi : pi_M} {ad : Nat → Nat} {cu su : Nat}
theorem ps_iadd (C : pi_Cx p s m args meth c y cc mi D cA sa sv A) {pc : Nat} {lv : pi_L} {r : List Value} {w : pi_W} {x y : Int32} (hd : decode cc pc = .ok (.iadd, 1)) (k : pi_Wat p l e R s m args below meth c Q D cA A mi.2.1 ad (pc + 1, lv, .int (x + y) :: r, w) cu su) : pi_Wat p l e R s m args below meth c Q D cA A mi.2.1 ad (pc, lv, .int y :: .int x :: r, w) cu su := by
  intro H locs ls hP hD hS hl
  exact lv_iadd C.1 C.2.1 hd (k H locs ls hP hD hS hl)
theorem ps_isub (C : pi_Cx p s m args meth c y cc mi D cA sa sv A) {pc : Nat} {lv : pi_L} {r : List Value} {w : pi_W} {x y : Int32} (hd : decode cc pc = .ok (.isub, 1)) (k : pi_Wat p l e R s m args below meth c Q D cA A mi.2.1 ad (pc + 1, lv, .int (x - y) :: r, w) cu su) : pi_Wat p l e R s m args below meth c Q D cA A mi.2.1 ad (pc, lv, .int y :: .int x :: r, w) cu su := by
  intro H locs ls hP hD hS hl
  exact lv_isub C.1 C.2.1 hd (k H locs ls hP hD hS hl)
theorem ps_imul (C : pi_Cx p s m args meth c y cc mi D cA sa sv A) {pc : Nat} {lv : pi_L} {r : List Value} {w : pi_W} {x y : Int32} (hd : decode cc pc = .ok (.imul, 1)) (k : pi_Wat p l e R s m args below meth c Q D cA A mi.2.1 ad (pc + 1, lv, .int (x * y) :: r, w) cu su) : pi_Wat p l e R s m args below meth c Q D cA A mi.2.1 ad (pc, lv, .int y :: .int x :: r, w) cu su := by
  intro H locs ls hP hD hS hl
  exact lv_imul C.1 C.2.1 hd (k H locs ls hP hD hS hl)
theorem ps_iand (C : pi_Cx p s m args meth c y cc mi D cA sa sv A) {pc : Nat} {lv : pi_L} {r : List Value} {w : pi_W} {x y : Int32} (hd : decode cc pc = .ok (.iand, 1)) (k : pi_Wat p l e R s m args below meth c Q D cA A mi.2.1 ad (pc + 1, lv, .int (x &&& y) :: r, w) cu su) : pi_Wat p l e R s m args below meth c Q D cA A mi.2.1 ad (pc, lv, .int y :: .int x :: r, w) cu su := by
  intro H locs ls hP hD hS hl
  exact lv_iand C.1 C.2.1 hd (k H locs ls hP hD hS hl)
theorem ps_ior (C : pi_Cx p s m args meth c y cc mi D cA sa sv A) {pc : Nat} {lv : pi_L} {r : List Value} {w : pi_W} {x y : Int32} (hd : decode cc pc = .ok (.ior, 1)) (k : pi_Wat p l e R s m args below meth c Q D cA A mi.2.1 ad (pc + 1, lv, .int (x ||| y) :: r, w) cu su) : pi_Wat p l e R s m args below meth c Q D cA A mi.2.1 ad (pc, lv, .int y :: .int x :: r, w) cu su := by
  intro H locs ls hP hD hS hl
  exact lv_ior C.1 C.2.1 hd (k H locs ls hP hD hS hl)
theorem ps_ixor (C : pi_Cx p s m args meth c y cc mi D cA sa sv A) {pc : Nat} {lv : pi_L} {r : List Value} {w : pi_W} {x y : Int32} (hd : decode cc pc = .ok (.ixor, 1)) (k : pi_Wat p l e R s m args below meth c Q D cA A mi.2.1 ad (pc + 1, lv, .int (x ^^^ y) :: r, w) cu su) : pi_Wat p l e R s m args below meth c Q D cA A mi.2.1 ad (pc, lv, .int y :: .int x :: r, w) cu su := by
  intro H locs ls hP hD hS hl
  exact lv_ixor C.1 C.2.1 hd (k H locs ls hP hD hS hl)
theorem ps_ishl (C : pi_Cx p s m args meth c y cc mi D cA sa sv A) {pc : Nat} {lv : pi_L} {r : List Value} {w : pi_W} {x y : Int32} (hd : decode cc pc = .ok (.ishl, 1)) (k : pi_Wat p l e R s m args below meth c Q D cA A mi.2.1 ad (pc + 1, lv, .int (x <<< (y &&& 31)) :: r, w) cu su) : pi_Wat p l e R s m args below meth c Q D cA A mi.2.1 ad (pc, lv, .int y :: .int x :: r, w) cu su := by
  intro H locs ls hP hD hS hl
  exact lv_ishl C.1 C.2.1 hd (k H locs ls hP hD hS hl)
theorem ps_ishr (C : pi_Cx p s m args meth c y cc mi D cA sa sv A) {pc : Nat} {lv : pi_L} {r : List Value} {w : pi_W} {x y : Int32} (hd : decode cc pc = .ok (.ishr, 1)) (k : pi_Wat p l e R s m args below meth c Q D cA A mi.2.1 ad (pc + 1, lv, .int (x >>> (y &&& 31)) :: r, w) cu su) : pi_Wat p l e R s m args below meth c Q D cA A mi.2.1 ad (pc, lv, .int y :: .int x :: r, w) cu su := by
  intro H locs ls hP hD hS hl
  exact lv_ishr C.1 C.2.1 hd (k H locs ls hP hD hS hl)
theorem ps_iushr (C : pi_Cx p s m args meth c y cc mi D cA sa sv A) {pc : Nat} {lv : pi_L} {r : List Value} {w : pi_W} {x y : Int32} (hd : decode cc pc = .ok (.iushr, 1)) (k : pi_Wat p l e R s m args below meth c Q D cA A mi.2.1 ad (pc + 1, lv, .int (x.toUInt32 >>> (y.toUInt32 &&& Int32.toUInt32 31)).toInt32 :: r, w) cu su) : pi_Wat p l e R s m args below meth c Q D cA A mi.2.1 ad (pc, lv, .int y :: .int x :: r, w) cu su := by
  intro H locs ls hP hD hS hl
  exact lv_iushr C.1 C.2.1 hd rfl (k H locs ls hP hD hS hl)
theorem ps_irem (C : pi_Cx p s m args meth c y cc mi D cA sa sv A) {pc : Nat} {lv : pi_L} {r : List Value} {w : pi_W} {x y : Int32} (hd : decode cc pc = .ok (.irem, 1)) (hy : ¬ y = 0) (k : pi_Wat p l e R s m args below meth c Q D cA A mi.2.1 ad (pc + 1, lv, .int (x - x / y * y) :: r, w) cu su) : pi_Wat p l e R s m args below meth c Q D cA A mi.2.1 ad (pc, lv, .int y :: .int x :: r, w) cu su := by
  intro H locs ls hP hD hS hl
  exact lv_irem C.1 C.2.1 hd hy (k H locs ls hP hD hS hl)
theorem ps_ladd (C : pi_Cx p s m args meth c y cc mi D cA sa sv A) {pc : Nat} {lv : pi_L} {r : List Value} {w : pi_W} {x y : Int64} (hd : decode cc pc = .ok (.ladd, 1)) (k : pi_Wat p l e R s m args below meth c Q D cA A mi.2.1 ad (pc + 1, lv, .long (x + y) :: r, w) cu su) : pi_Wat p l e R s m args below meth c Q D cA A mi.2.1 ad (pc, lv, .long y :: .long x :: r, w) cu su := by
  intro H locs ls hP hD hS hl
  exact lv_ladd C.1 C.2.1 hd (k H locs ls hP hD hS hl)
theorem ps_lmul (C : pi_Cx p s m args meth c y cc mi D cA sa sv A) {pc : Nat} {lv : pi_L} {r : List Value} {w : pi_W} {x y : Int64} (hd : decode cc pc = .ok (.lmul, 1)) (k : pi_Wat p l e R s m args below meth c Q D cA A mi.2.1 ad (pc + 1, lv, .long (x * y) :: r, w) cu su) : pi_Wat p l e R s m args below meth c Q D cA A mi.2.1 ad (pc, lv, .long y :: .long x :: r, w) cu su := by
  intro H locs ls hP hD hS hl
  exact lv_lmul C.1 C.2.1 hd (k H locs ls hP hD hS hl)
theorem ps_lor (C : pi_Cx p s m args meth c y cc mi D cA sa sv A) {pc : Nat} {lv : pi_L} {r : List Value} {w : pi_W} {x y : Int64} (hd : decode cc pc = .ok (.lor, 1)) (k : pi_Wat p l e R s m args below meth c Q D cA A mi.2.1 ad (pc + 1, lv, .long (x ||| y) :: r, w) cu su) : pi_Wat p l e R s m args below meth c Q D cA A mi.2.1 ad (pc, lv, .long y :: .long x :: r, w) cu su := by
  intro H locs ls hP hD hS hl
  exact lv_lor C.1 C.2.1 hd (k H locs ls hP hD hS hl)
theorem ps_lshl (C : pi_Cx p s m args meth c y cc mi D cA sa sv A) {pc : Nat} {lv : pi_L} {r : List Value} {w : pi_W} {x : Int64} {y : Int32} (hd : decode cc pc = .ok (.lshl, 1)) (k : pi_Wat p l e R s m args below meth c Q D cA A mi.2.1 ad (pc + 1, lv, .long (x <<< (y.toInt64 &&& 63)) :: r, w) cu su) : pi_Wat p l e R s m args below meth c Q D cA A mi.2.1 ad (pc, lv, .int y :: .long x :: r, w) cu su := by
  intro H locs ls hP hD hS hl
  exact lv_lshl C.1 C.2.1 hd rfl (k H locs ls hP hD hS hl)
theorem ps_lcmp (C : pi_Cx p s m args meth c y cc mi D cA sa sv A) {pc : Nat} {lv : pi_L} {r : List Value} {w : pi_W} {x y : Int64} (hd : decode cc pc = .ok (.lcmp, 1)) (k : pi_Wat p l e R s m args below meth c Q D cA A mi.2.1 ad (pc + 1, lv, .int (lg_cmp x y) :: r, w) cu su) : pi_Wat p l e R s m args below meth c Q D cA A mi.2.1 ad (pc, lv, .long y :: .long x :: r, w) cu su := by
  intro H locs ls hP hD hS hl
  exact W.lcmp C.1 C.2.1 hd (k H locs ls hP hD hS hl)
theorem ps_i2b (C : pi_Cx p s m args meth c y cc mi D cA sa sv A) {pc : Nat} {lv : pi_L} {r : List Value} {w : pi_W} {x : Int32} (hd : decode cc pc = .ok (.i2b, 1)) (k : pi_Wat p l e R s m args below meth c Q D cA A mi.2.1 ad (pc + 1, lv, .int x.toInt8.toInt32 :: r, w) cu su) : pi_Wat p l e R s m args below meth c Q D cA A mi.2.1 ad (pc, lv, .int x :: r, w) cu su := by
  intro H locs ls hP hD hS hl
  exact lv_i2b C.1 C.2.1 hd rfl (k H locs ls hP hD hS hl)
theorem ps_i2l (C : pi_Cx p s m args meth c y cc mi D cA sa sv A) {pc : Nat} {lv : pi_L} {r : List Value} {w : pi_W} {x : Int32} (hd : decode cc pc = .ok (.i2l, 1)) (k : pi_Wat p l e R s m args below meth c Q D cA A mi.2.1 ad (pc + 1, lv, .long x.toInt64 :: r, w) cu su) : pi_Wat p l e R s m args below meth c Q D cA A mi.2.1 ad (pc, lv, .int x :: r, w) cu su := by
  intro H locs ls hP hD hS hl
  exact lv_i2l C.1 C.2.1 hd rfl (k H locs ls hP hD hS hl)
theorem ps_iconst (C : pi_Cx p s m args meth c y cc mi D cA sa sv A) {pc : Nat} {lv : pi_L} {r : List Value} {w : pi_W} {n : Int} (hd : decode cc pc = .ok (.iconst n, 1)) (k : pi_Wat p l e R s m args below meth c Q D cA A mi.2.1 ad (pc + 1, lv, .int (Int32.ofInt n) :: r, w) cu su) : pi_Wat p l e R s m args below meth c Q D cA A mi.2.1 ad (pc, lv, r, w) cu su := by
  intro H locs ls hP hD hS hl
  exact lv_iconst C.1 C.2.1 hd rfl (k H locs ls hP hD hS hl)
theorem ps_bipush (C : pi_Cx p s m args meth c y cc mi D cA sa sv A) {pc : Nat} {lv : pi_L} {r : List Value} {w : pi_W} {n : Int} (hd : decode cc pc = .ok (.bipush n, 2)) (k : pi_Wat p l e R s m args below meth c Q D cA A mi.2.1 ad (pc + 2, lv, .int (Int8.ofInt n).toInt32 :: r, w) cu su) : pi_Wat p l e R s m args below meth c Q D cA A mi.2.1 ad (pc, lv, r, w) cu su := by
  intro H locs ls hP hD hS hl
  exact lv_bipush C.1 C.2.1 hd rfl (k H locs ls hP hD hS hl)
theorem ps_sipush (C : pi_Cx p s m args meth c y cc mi D cA sa sv A) {pc : Nat} {lv : pi_L} {r : List Value} {w : pi_W} {n : Int} (hd : decode cc pc = .ok (.sipush n, 3)) (k : pi_Wat p l e R s m args below meth c Q D cA A mi.2.1 ad (pc + 3, lv, .int (Int16.ofInt n).toInt32 :: r, w) cu su) : pi_Wat p l e R s m args below meth c Q D cA A mi.2.1 ad (pc, lv, r, w) cu su := by
  intro H locs ls hP hD hS hl
  exact lv_sipush C.1 C.2.1 hd rfl (k H locs ls hP hD hS hl)
theorem ps_lconst (C : pi_Cx p s m args meth c y cc mi D cA sa sv A) {pc : Nat} {lv : pi_L} {r : List Value} {w : pi_W} {n : Fin 2} (hd : decode cc pc = .ok (.lconst n, 1)) (k : pi_Wat p l e R s m args below meth c Q D cA A mi.2.1 ad (pc + 1, lv, .long (Int64.ofNat (n : Nat)) :: r, w) cu su) : pi_Wat p l e R s m args below meth c Q D cA A mi.2.1 ad (pc, lv, r, w) cu su := by
  intro H locs ls hP hD hS hl
  exact lv_lconst C.1 C.2.1 hd rfl (k H locs ls hP hD hS hl)
theorem ps_ldc (C : pi_Cx p s m args meth c y cc mi D cA sa sv A) {pc : Nat} {lv : pi_L} {r : List Value} {w : pi_W} {n q : Nat} {v : Int32} (hq : pi_look pi_lT mi.1 n = some (v, q)) (hd : decode cc pc = .ok (.ldc n, 2)) (k : pi_Wat p l e R s m args below meth c Q D cA A mi.2.1 ad (pc + 2, lv, .int v :: r, w) cu su) : pi_Wat p l e R s m args below meth c Q D cA A mi.2.1 ad (pc, lv, r, w) cu su := by
  intro H locs ls hP hD hS hl
  obtain ⟨t, ht, hm⟩ := pi_look_mem hq
  have hk : Cond.constant y.cls n v ∈ lw_tbl := ll_all C.2.2.2.2.2.2.2.2.2.2.1 ht _ hm
  exact lv_ldc C.1 C.2.1 C.2.2.1 (C.2.2.2.1 _ (pi_good_of hk rfl)) hd (k H locs ls hP hD hS hl)
theorem ps_ldc_w (C : pi_Cx p s m args meth c y cc mi D cA sa sv A) {pc : Nat} {lv : pi_L} {r : List Value} {w : pi_W} {n q : Nat} {v : Int32} (hq : pi_look pi_lT mi.1 n = some (v, q)) (hd : decode cc pc = .ok (.ldc_w n, 3)) (k : pi_Wat p l e R s m args below meth c Q D cA A mi.2.1 ad (pc + 3, lv, .int v :: r, w) cu su) : pi_Wat p l e R s m args below meth c Q D cA A mi.2.1 ad (pc, lv, r, w) cu su := by
  intro H locs ls hP hD hS hl
  obtain ⟨t, ht, hm⟩ := pi_look_mem hq
  have hk : Cond.constant y.cls n v ∈ lw_tbl := ll_all C.2.2.2.2.2.2.2.2.2.2.1 ht _ hm
  exact lv_ldcw C.1 C.2.1 C.2.2.1 (C.2.2.2.1 _ (pi_good_of hk rfl)) hd (k H locs ls hP hD hS hl)
theorem ps_ldc2 (C : pi_Cx p s m args meth c y cc mi D cA sa sv A) {pc : Nat} {lv : pi_L} {r : List Value} {w : pi_W} {n q : Nat} {v : Int64} (hq : pi_look pi_qT mi.1 n = some (v, q)) (hd : decode cc pc = .ok (.ldc2_w n, 3)) (k : pi_Wat p l e R s m args below meth c Q D cA A mi.2.1 ad (pc + 3, lv, .long v :: r, w) cu su) : pi_Wat p l e R s m args below meth c Q D cA A mi.2.1 ad (pc, lv, r, w) cu su := by
  intro H locs ls hP hD hS hl
  obtain ⟨t, ht, hm⟩ := pi_look_mem hq
  have hk : Cond.constantLong y.cls n v ∈ lw_tbl := lq_all C.2.2.2.2.2.2.2.2.2.2.1 ht _ hm
  exact lv_ldc2 C.1 C.2.1 C.2.2.1 (C.2.2.2.1 _ (pi_good_of hk rfl)) hd (k H locs ls hP hD hS hl)
theorem ps_ldcS (C : pi_Cx p s m args meth c y cc mi D cA sa sv A) {pc : Nat} {lv : pi_L} {r : List Value} {w : pi_W} (hsa : ad pi_str = sa) (hown : mi.1 = 9) (hd : decode cc pc = .ok (.ldc 19, 2)) (k : pi_Wat p l e R s m args below meth c Q D cA A mi.2.1 ad (pc + 2, lv, .ref pi_str :: r, w) cu su) : pi_Wat p l e R s m args below meth c Q D cA A mi.2.1 ad (pc, lv, r, w) cu su := by
  intro H locs ls hP hD hS hl
  have hy : y.cls = "ReadBound$Tokens" := by
    have h1 := C.2.2.2.2.2.2.2.2.2.2.1
    rw [hown] at h1
    exact (Option.some.inj h1).symm
  have h2 := k H locs ls hP hD hS hl
  refine va_ldcS C.1 C.2.1 (own := "ReadBound$Tokens") (by rw [← hy]; exact C.2.2.1) C.2.2.2.2.1.2.2.1 hd ?_
  rw [← hsa]
  exact h2
theorem ps_iload (C : pi_Cx p s m args meth c y cc mi D cA sa sv A) {pc : Nat} {lv : pi_L} {r : List Value} {w : pi_W} {n : Nat} {x : Int32} (hq : pi_get lv n = some (.int x)) (hd : decode cc pc = .ok (.iload n, 2)) (k : pi_Wat p l e R s m args below meth c Q D cA A mi.2.1 ad (pc + 2, lv, .int x :: r, w) cu su) : pi_Wat p l e R s m args below meth c Q D cA A mi.2.1 ad (pc, lv, r, w) cu su := by
  intro H locs ls hP hD hS hl
  exact lv_iload C.1 C.2.1 hd (pi_rL_at hl hq) (k H locs ls hP hD hS hl)
theorem ps_iload_n (C : pi_Cx p s m args meth c y cc mi D cA sa sv A) {pc : Nat} {lv : pi_L} {r : List Value} {w : pi_W} {n : Fin 4} {x : Int32} (hq : pi_get lv (n : Nat) = some (.int x)) (hd : decode cc pc = .ok (.iload_n n, 1)) (k : pi_Wat p l e R s m args below meth c Q D cA A mi.2.1 ad (pc + 1, lv, .int x :: r, w) cu su) : pi_Wat p l e R s m args below meth c Q D cA A mi.2.1 ad (pc, lv, r, w) cu su := by
  intro H locs ls hP hD hS hl
  exact lv_iload_n C.1 C.2.1 hd rfl (pi_rL_at hl hq) (k H locs ls hP hD hS hl)
theorem ps_lload_n (C : pi_Cx p s m args meth c y cc mi D cA sa sv A) {pc : Nat} {lv : pi_L} {r : List Value} {w : pi_W} {n : Fin 4} {x : Int64} (hq : pi_get lv (n : Nat) = some (.long x)) (hd : decode cc pc = .ok (.lload_n n, 1)) (k : pi_Wat p l e R s m args below meth c Q D cA A mi.2.1 ad (pc + 1, lv, .long x :: r, w) cu su) : pi_Wat p l e R s m args below meth c Q D cA A mi.2.1 ad (pc, lv, r, w) cu su := by
  intro H locs ls hP hD hS hl
  exact lv_lload_n C.1 C.2.1 hd rfl (pi_rL_at hl hq) (k H locs ls hP hD hS hl)
theorem ps_aload_n (C : pi_Cx p s m args meth c y cc mi D cA sa sv A) {pc : Nat} {lv : pi_L} {r : List Value} {w : pi_W} {n : Fin 4} {x : Nat} (hq : pi_get lv (n : Nat) = some (.ref x)) (hd : decode cc pc = .ok (.aload_n n, 1)) (k : pi_Wat p l e R s m args below meth c Q D cA A mi.2.1 ad (pc + 1, lv, .ref x :: r, w) cu su) : pi_Wat p l e R s m args below meth c Q D cA A mi.2.1 ad (pc, lv, r, w) cu su := by
  intro H locs ls hP hD hS hl
  exact lv_aload_n C.1 C.2.1 hd rfl (pi_rL_at hl hq) (k H locs ls hP hD hS hl)
theorem ps_istore (C : pi_Cx p s m args meth c y cc mi D cA sa sv A) {pc : Nat} {lv : pi_L} {r : List Value} {w : pi_W} {n : Nat} {x : Int32} (hn : n < mi.2.1) (hd : decode cc pc = .ok (.istore n, 2)) (k : pi_Wat p l e R s m args below meth c Q D cA A mi.2.1 ad (pc + 2, pi_set lv n (.int x), r, w) cu su) : pi_Wat p l e R s m args below meth c Q D cA A mi.2.1 ad (pc, lv, .int x :: r, w) cu su := by
  intro H locs ls hP hD hS hl
  exact lv_istore C.1 C.2.1 hd hl hn (pi_rL_set ad lv n (.int x)) (fun ls hl => k H locs ls hP hD hS hl)
theorem ps_istore_n (C : pi_Cx p s m args meth c y cc mi D cA sa sv A) {pc : Nat} {lv : pi_L} {r : List Value} {w : pi_W} {n : Fin 4} {x : Int32} (hn : (n : Nat) < mi.2.1) (hd : decode cc pc = .ok (.istore_n n, 1)) (k : pi_Wat p l e R s m args below meth c Q D cA A mi.2.1 ad (pc + 1, pi_set lv (n : Nat) (.int x), r, w) cu su) : pi_Wat p l e R s m args below meth c Q D cA A mi.2.1 ad (pc, lv, .int x :: r, w) cu su := by
  intro H locs ls hP hD hS hl
  exact lv_istore_n C.1 C.2.1 hd rfl hl hn (pi_rL_set ad lv (n : Nat) (.int x)) (fun ls hl => k H locs ls hP hD hS hl)
theorem ps_iinc (C : pi_Cx p s m args meth c y cc mi D cA sa sv A) {pc : Nat} {lv : pi_L} {r : List Value} {w : pi_W} {n : Nat} {j : Int} {x : Int32} (hq : pi_get lv n = some (.int x)) (hn : n < mi.2.1) (hd : decode cc pc = .ok (.iinc n j, 3)) (k : pi_Wat p l e R s m args below meth c Q D cA A mi.2.1 ad (pc + 3, pi_set lv n (.int (x + Int32.ofInt j)), r, w) cu su) : pi_Wat p l e R s m args below meth c Q D cA A mi.2.1 ad (pc, lv, r, w) cu su := by
  intro H locs ls hP hD hS hl
  obtain ⟨i, hi⟩ := List.getElem?_of_mem (pi_rL_mem (ad := ad) hq)
  exact lv_iinc C.1 C.2.1 hd hl hi rfl hn (pi_rL_set ad lv n (.int (x + Int32.ofInt j))) (fun ls hl => k H locs ls hP hD hS hl)
theorem ps_dup (C : pi_Cx p s m args meth c y cc mi D cA sa sv A) {pc : Nat} {lv : pi_L} {r : List Value} {w : pi_W} {v : Value} (hv : v.category = 1) (hd : decode cc pc = .ok (.dup, 1)) (k : pi_Wat p l e R s m args below meth c Q D cA A mi.2.1 ad (pc + 1, lv, v :: v :: r, w) cu su) : pi_Wat p l e R s m args below meth c Q D cA A mi.2.1 ad (pc, lv, v :: r, w) cu su := by
  intro H locs ls hP hD hS hl
  exact lv_dup C.1 C.2.1 hd ((pi_rv_cat ad v).trans hv) (k H locs ls hP hD hS hl)
theorem ps_pop (C : pi_Cx p s m args meth c y cc mi D cA sa sv A) {pc : Nat} {lv : pi_L} {r : List Value} {w : pi_W} {v : Value} (hv : v.category = 1) (hd : decode cc pc = .ok (.pop, 1)) (k : pi_Wat p l e R s m args below meth c Q D cA A mi.2.1 ad (pc + 1, lv, r, w) cu su) : pi_Wat p l e R s m args below meth c Q D cA A mi.2.1 ad (pc, lv, v :: r, w) cu su := by
  intro H locs ls hP hD hS hl
  exact lv_pop C.1 C.2.1 hd ((pi_rv_cat ad v).trans hv) (k H locs ls hP hD hS hl)
theorem ps_dup2 (C : pi_Cx p s m args meth c y cc mi D cA sa sv A) {pc : Nat} {lv : pi_L} {r : List Value} {w : pi_W} {v u : Value} (hv : v.category = 1) (hu : u.category = 1) (hd : decode cc pc = .ok (.dup2, 1)) (k : pi_Wat p l e R s m args below meth c Q D cA A mi.2.1 ad (pc + 1, lv, v :: u :: v :: u :: r, w) cu su) : pi_Wat p l e R s m args below meth c Q D cA A mi.2.1 ad (pc, lv, v :: u :: r, w) cu su := by
  intro H locs ls hP hD hS hl
  exact lv_dup2_11 C.1 C.2.1 hd ((pi_rv_cat ad v).trans hv) ((pi_rv_cat ad u).trans hu) (k H locs ls hP hD hS hl)
theorem ps_if1 (C : pi_Cx p s m args meth c y cc mi D cA sa sv A) {pc : Nat} {lv : pi_L} {r : List Value} {w : pi_W} {x : Int32} {cd : ClassFile.Cond} {off : Int} {t : Nat} (ht : pi_tgt pc off = some t) (hc : pi_cmp cd x 0 = true) (hd : decode cc pc = .ok (.ifCond cd off, 3)) (k : pi_Wat p l e R s m args below meth c Q D cA A mi.2.1 ad (t, lv, r, w) cu su) : pi_Wat p l e R s m args below meth c Q D cA A mi.2.1 ad (pc, lv, .int x :: r, w) cu su := by
  intro H locs ls hP hD hS hl
  have k := k H locs ls hP hD hS hl
  have ht := pi_tgt_of ht
  cases cd
  · exact lv_if_eq C.1 C.2.1 hd ht (fun _ => k) (fun hn => absurd (of_decide_eq_true hc) hn)
  · exact lv_if_ne C.1 C.2.1 hd ht (fun _ => k) (fun hn => absurd hn (of_decide_eq_true hc))
  · exact lv_if_lt C.1 C.2.1 hd ht (fun _ => k) (fun hn => absurd (of_decide_eq_true hc) hn)
  · exact lv_if_ge C.1 C.2.1 hd ht (fun _ => k) (fun hn => absurd (of_decide_eq_true hc) hn)
  · exact lv_if_gt C.1 C.2.1 hd ht (fun _ => k) (fun hn => absurd (of_decide_eq_true hc) hn)
  · exact lv_if_le C.1 C.2.1 hd ht (fun _ => k) (fun hn => absurd (of_decide_eq_true hc) hn)
theorem ps_if0 (C : pi_Cx p s m args meth c y cc mi D cA sa sv A) {pc : Nat} {lv : pi_L} {r : List Value} {w : pi_W} {x : Int32} {cd : ClassFile.Cond} {off : Int} (hc : ¬ pi_cmp cd x 0 = true) (hd : decode cc pc = .ok (.ifCond cd off, 3)) (ht : ∃ t : Nat, (pc : Int) + off = (t : Int)) (k : pi_Wat p l e R s m args below meth c Q D cA A mi.2.1 ad (pc + 3, lv, r, w) cu su) : pi_Wat p l e R s m args below meth c Q D cA A mi.2.1 ad (pc, lv, .int x :: r, w) cu su := by
  intro H locs ls hP hD hS hl
  have k := k H locs ls hP hD hS hl
  obtain ⟨t, ht⟩ := ht
  cases cd
  · exact lv_if_eq C.1 C.2.1 hd ht (fun h => absurd (decide_eq_true h) hc) (fun _ => k)
  · exact lv_if_ne C.1 C.2.1 hd ht (fun h => absurd (decide_eq_true h) hc) (fun _ => k)
  · exact lv_if_lt C.1 C.2.1 hd ht (fun h => absurd (decide_eq_true h) hc) (fun _ => k)
  · exact lv_if_ge C.1 C.2.1 hd ht (fun h => absurd (decide_eq_true h) hc) (fun _ => k)
  · exact lv_if_gt C.1 C.2.1 hd ht (fun h => absurd (decide_eq_true h) hc) (fun _ => k)
  · exact lv_if_le C.1 C.2.1 hd ht (fun h => absurd (decide_eq_true h) hc) (fun _ => k)
theorem ps_ic1 (C : pi_Cx p s m args meth c y cc mi D cA sa sv A) {pc : Nat} {lv : pi_L} {r : List Value} {w : pi_W} {x y : Int32} {cd : ClassFile.Cond} {off : Int} {t : Nat} (ht : pi_tgt pc off = some t) (hc : pi_cmp cd x y = true) (hd : decode cc pc = .ok (.if_icmp cd off, 3)) (k : pi_Wat p l e R s m args below meth c Q D cA A mi.2.1 ad (t, lv, r, w) cu su) : pi_Wat p l e R s m args below meth c Q D cA A mi.2.1 ad (pc, lv, .int y :: .int x :: r, w) cu su := by
  intro H locs ls hP hD hS hl
  have k := k H locs ls hP hD hS hl
  have ht := pi_tgt_of ht
  cases cd
  · exact lv_icmp_eq C.1 C.2.1 hd ht (fun _ => k) (fun hn => absurd (of_decide_eq_true hc) hn)
  · exact lv_icmp_ne C.1 C.2.1 hd ht (fun _ => k) (fun hn => absurd hn (of_decide_eq_true hc))
  · exact lv_icmp_lt C.1 C.2.1 hd ht (fun _ => k) (fun hn => absurd (of_decide_eq_true hc) hn)
  · exact lv_icmp_ge C.1 C.2.1 hd ht (fun _ => k) (fun hn => absurd (of_decide_eq_true hc) hn)
  · exact lv_icmp_gt C.1 C.2.1 hd ht (fun _ => k) (fun hn => absurd (of_decide_eq_true hc) hn)
  · exact lv_icmp_le C.1 C.2.1 hd ht (fun _ => k) (fun hn => absurd (of_decide_eq_true hc) hn)
theorem ps_ic0 (C : pi_Cx p s m args meth c y cc mi D cA sa sv A) {pc : Nat} {lv : pi_L} {r : List Value} {w : pi_W} {x y : Int32} {cd : ClassFile.Cond} {off : Int} (hc : ¬ pi_cmp cd x y = true) (hd : decode cc pc = .ok (.if_icmp cd off, 3)) (ht : ∃ t : Nat, (pc : Int) + off = (t : Int)) (k : pi_Wat p l e R s m args below meth c Q D cA A mi.2.1 ad (pc + 3, lv, r, w) cu su) : pi_Wat p l e R s m args below meth c Q D cA A mi.2.1 ad (pc, lv, .int y :: .int x :: r, w) cu su := by
  intro H locs ls hP hD hS hl
  have k := k H locs ls hP hD hS hl
  obtain ⟨t, ht⟩ := ht
  cases cd
  · exact lv_icmp_eq C.1 C.2.1 hd ht (fun h => absurd (decide_eq_true h) hc) (fun _ => k)
  · exact lv_icmp_ne C.1 C.2.1 hd ht (fun h => absurd (decide_eq_true h) hc) (fun _ => k)
  · exact lv_icmp_lt C.1 C.2.1 hd ht (fun h => absurd (decide_eq_true h) hc) (fun _ => k)
  · exact lv_icmp_ge C.1 C.2.1 hd ht (fun h => absurd (decide_eq_true h) hc) (fun _ => k)
  · exact lv_icmp_gt C.1 C.2.1 hd ht (fun h => absurd (decide_eq_true h) hc) (fun _ => k)
  · exact lv_icmp_le C.1 C.2.1 hd ht (fun h => absurd (decide_eq_true h) hc) (fun _ => k)
theorem ps_goto (C : pi_Cx p s m args meth c y cc mi D cA sa sv A) {pc : Nat} {lv : pi_L} {r : List Value} {w : pi_W} {off : Int} {t : Nat} (ht : pi_tgt pc off = some t) (hd : decode cc pc = .ok (.goto off, 3)) (k : pi_Wat p l e R s m args below meth c Q D cA A mi.2.1 ad (t, lv, r, w) cu su) : pi_Wat p l e R s m args below meth c Q D cA A mi.2.1 ad (pc, lv, r, w) cu su := by
  intro H locs ls hP hD hS hl
  exact lv_goto C.1 C.2.1 hd (pi_tgt_of ht) (k H locs ls hP hD hS hl)
theorem ps_tabOut (C : pi_Cx p s m args meth c y cc mi D cA sa sv A) {pc : Nat} {lv : pi_L} {r : List Value} {w : pi_W} {x : Int32} {dflt lo hi : Int} {offs : Array Int} {len t : Nat} (h : x.toInt < lo ∨ hi < x.toInt) (ht : pi_tgt pc dflt = some t) (hd : decode cc pc = .ok (.tableswitch dflt lo hi offs, len)) (k : pi_Wat p l e R s m args below meth c Q D cA A mi.2.1 ad (t, lv, r, w) cu su) : pi_Wat p l e R s m args below meth c Q D cA A mi.2.1 ad (pc, lv, .int x :: r, w) cu su := by
  intro H locs ls hP hD hS hl
  exact lv_tableOut C.1 C.2.1 hd h (pi_tgt_of ht) (k H locs ls hP hD hS hl)
theorem ps_tabIn (C : pi_Cx p s m args meth c y cc mi D cA sa sv A) {pc : Nat} {lv : pi_L} {r : List Value} {w : pi_W} {x : Int32} {dflt lo hi off : Int} {offs : Array Int} {len t : Nat} (h : ¬ (x.toInt < lo ∨ hi < x.toInt)) (ho : offs[(x.toInt - lo).toNat]? = some off) (ht : pi_tgt pc off = some t) (hd : decode cc pc = .ok (.tableswitch dflt lo hi offs, len)) (k : pi_Wat p l e R s m args below meth c Q D cA A mi.2.1 ad (t, lv, r, w) cu su) : pi_Wat p l e R s m args below meth c Q D cA A mi.2.1 ad (pc, lv, .int x :: r, w) cu su := by
  intro H locs ls hP hD hS hl
  exact lv_tableIn C.1 C.2.1 hd (fun q => h (Or.inl q)) (fun q => h (Or.inr q)) ho (pi_tgt_of ht) (k H locs ls hP hD hS hl)
theorem ps_lookup (C : pi_Cx p s m args meth c y cc mi D cA sa sv A) {pc : Nat} {lv : pi_L} {r : List Value} {w : pi_W} {x : Int32} {dflt : Int} {ps : Array (Int × Int)} {len t : Nat} (hp : (ps.toList.zip (ps.toList.drop 1)).all (fun (a, next) => a.1 < next.1) = true) (ht : pi_tgt pc (Op.lookupswitch.offset ps.toList dflt x.toInt) = some t) (hd : decode cc pc = .ok (.lookupswitch dflt ps, len)) (k : pi_Wat p l e R s m args below meth c Q D cA A mi.2.1 ad (t, lv, r, w) cu su) : pi_Wat p l e R s m args below meth c Q D cA A mi.2.1 ad (pc, lv, .int x :: r, w) cu su := by
  intro H locs ls hP hD hS hl
  exact lv_lookup C.1 C.2.1 hd hp rfl (pi_tgt_of ht) (k H locs ls hP hD hS hl)
theorem ps_iald (C : pi_Cx p s m args meth c y cc mi D cA sa sv A) {pc : Nat} {lv : pi_L} {r : List Value} {w : pi_W} {i : Int32} {a n : Nat} {f : Nat → Int32} (hw : w[a]? = some (.inl (0, n, .inl f))) (hin : ¬ (i < 0 ∨ n ≤ i.toNatClampNeg)) (hd : decode cc pc = .ok (.iaload, 1)) (k : pi_Wat p l e R s m args below meth c Q D cA A mi.2.1 ad (pc + 1, lv, .int (f i.toNatClampNeg) :: r, w) cu su) : pi_Wat p l e R s m args below meth c Q D cA A mi.2.1 ad (pc, lv, .int i :: .ref a :: r, w) cu su := by
  intro H locs ls hP hD hS hl
  exact va_iald C.1 C.2.1 C.2.2.2.2.1.1 hP a 0 (by rw [pi_rW_get, hw]; rfl) rfl hin hd (k H locs ls hP hD hS hl)
theorem ps_bald (C : pi_Cx p s m args meth c y cc mi D cA sa sv A) {pc : Nat} {lv : pi_L} {r : List Value} {w : pi_W} {i : Int32} {a n : Nat} {f : Nat → Int32} (hw : w[a]? = some (.inl (1, n, .inl f))) (hin : ¬ (i < 0 ∨ n ≤ i.toNatClampNeg)) (hd : decode cc pc = .ok (.baload, 1)) (k : pi_Wat p l e R s m args below meth c Q D cA A mi.2.1 ad (pc + 1, lv, .int (f i.toNatClampNeg) :: r, w) cu su) : pi_Wat p l e R s m args below meth c Q D cA A mi.2.1 ad (pc, lv, .int i :: .ref a :: r, w) cu su := by
  intro H locs ls hP hD hS hl
  exact va_bald C.1 C.2.1 C.2.2.2.2.1.1 hP a 1 (by rw [pi_rW_get, hw]; rfl) rfl hin hd (k H locs ls hP hD hS hl)
theorem ps_zald (C : pi_Cx p s m args meth c y cc mi D cA sa sv A) {pc : Nat} {lv : pi_L} {r : List Value} {w : pi_W} {i : Int32} {a n : Nat} {f : Nat → Int32} (hw : w[a]? = some (.inl (3, n, .inl f))) (hin : ¬ (i < 0 ∨ n ≤ i.toNatClampNeg)) (hd : decode cc pc = .ok (.baload, 1)) (k : pi_Wat p l e R s m args below meth c Q D cA A mi.2.1 ad (pc + 1, lv, .int (f i.toNatClampNeg) :: r, w) cu su) : pi_Wat p l e R s m args below meth c Q D cA A mi.2.1 ad (pc, lv, .int i :: .ref a :: r, w) cu su := by
  intro H locs ls hP hD hS hl
  exact va_zald C.1 C.2.1 C.2.2.2.2.1.1 hP a 3 (by rw [pi_rW_get, hw]; rfl) rfl hin hd (k H locs ls hP hD hS hl)
theorem ps_lald (C : pi_Cx p s m args meth c y cc mi D cA sa sv A) {pc : Nat} {lv : pi_L} {r : List Value} {w : pi_W} {i : Int32} {a n : Nat} {f : Nat → Int64} (hw : w[a]? = some (.inl (2, n, .inr (.inl f)))) (hin : ¬ (i < 0 ∨ n ≤ i.toNatClampNeg)) (hd : decode cc pc = .ok (.laload, 1)) (k : pi_Wat p l e R s m args below meth c Q D cA A mi.2.1 ad (pc + 1, lv, .long (f i.toNatClampNeg) :: r, w) cu su) : pi_Wat p l e R s m args below meth c Q D cA A mi.2.1 ad (pc, lv, .int i :: .ref a :: r, w) cu su := by
  intro H locs ls hP hD hS hl
  exact va_lald C.1 C.2.1 C.2.2.2.2.1.1 hP a 2 (by rw [pi_rW_get, hw]; rfl) rfl hin hd (k H locs ls hP hD hS hl)
theorem ps_iast (C : pi_Cx p s m args meth c y cc mi D cA sa sv A) {pc : Nat} {lv : pi_L} {r : List Value} {w : pi_W} {i : Int32} {x : Int32} {a n : Nat} {f : Nat → Int32} (hw : w[a]? = some (.inl (0, n, .inl (f)))) (hin : ¬ (i < 0 ∨ n ≤ i.toNatClampNeg)) (hd : decode cc pc = .ok (.iastore, 1)) (k : pi_Wat p l e R s m args below meth c Q D cA A mi.2.1 ad (pc + 1, lv, r, w.set a (.inl (0, n, .inl (upd f i.toNatClampNeg x)))) cu su) : pi_Wat p l e R s m args below meth c Q D cA A mi.2.1 ad (pc, lv, .int x :: .int i :: .ref a :: r, w) cu su := by
  intro H locs ls hP hD hS hl
  exact va_iast C.1 C.2.1 C.2.2.2.2.1.1 hP hD hS a 0 (by rw [pi_rW_get, hw]; rfl) rfl hin hd (fun H1 locs1 p1 d1 s1 => k H1 locs1 ls (by show va_P _ _ (pi_rW _ _ _) _; rw [pi_rW_set]; exact p1) (by show va_D _ (pi_rW _ _ _); rw [pi_rW_set]; exact d1) s1 hl)
theorem ps_bast (C : pi_Cx p s m args meth c y cc mi D cA sa sv A) {pc : Nat} {lv : pi_L} {r : List Value} {w : pi_W} {i : Int32} {x : Int32} {a n : Nat} {f : Nat → Int32} (hw : w[a]? = some (.inl (1, n, .inl (f)))) (hin : ¬ (i < 0 ∨ n ≤ i.toNatClampNeg)) (hd : decode cc pc = .ok (.bastore, 1)) (k : pi_Wat p l e R s m args below meth c Q D cA A mi.2.1 ad (pc + 1, lv, r, w.set a (.inl (1, n, .inl (upd f i.toNatClampNeg (vp_nar .byte x))))) cu su) : pi_Wat p l e R s m args below meth c Q D cA A mi.2.1 ad (pc, lv, .int x :: .int i :: .ref a :: r, w) cu su := by
  intro H locs ls hP hD hS hl
  exact va_bast C.1 C.2.1 C.2.2.2.2.1.1 hP hD hS a 1 (by rw [pi_rW_get, hw]; rfl) rfl hin hd (fun H1 locs1 p1 d1 s1 => k H1 locs1 ls (by show va_P _ _ (pi_rW _ _ _) _; rw [pi_rW_set]; exact p1) (by show va_D _ (pi_rW _ _ _); rw [pi_rW_set]; exact d1) s1 hl)
theorem ps_zast (C : pi_Cx p s m args meth c y cc mi D cA sa sv A) {pc : Nat} {lv : pi_L} {r : List Value} {w : pi_W} {i : Int32} {x : Int32} {a n : Nat} {f : Nat → Int32} (hw : w[a]? = some (.inl (3, n, .inl (f)))) (hin : ¬ (i < 0 ∨ n ≤ i.toNatClampNeg)) (hd : decode cc pc = .ok (.bastore, 1)) (k : pi_Wat p l e R s m args below meth c Q D cA A mi.2.1 ad (pc + 1, lv, r, w.set a (.inl (3, n, .inl (upd f i.toNatClampNeg (vp_nar .boolean x))))) cu su) : pi_Wat p l e R s m args below meth c Q D cA A mi.2.1 ad (pc, lv, .int x :: .int i :: .ref a :: r, w) cu su := by
  intro H locs ls hP hD hS hl
  exact va_zast C.1 C.2.1 C.2.2.2.2.1.1 hP hD hS a 3 (by rw [pi_rW_get, hw]; rfl) rfl hin hd (fun H1 locs1 p1 d1 s1 => k H1 locs1 ls (by show va_P _ _ (pi_rW _ _ _) _; rw [pi_rW_set]; exact p1) (by show va_D _ (pi_rW _ _ _); rw [pi_rW_set]; exact d1) s1 hl)
theorem ps_last (C : pi_Cx p s m args meth c y cc mi D cA sa sv A) {pc : Nat} {lv : pi_L} {r : List Value} {w : pi_W} {i : Int32} {x : Int64} {a n : Nat} {f : Nat → Int64} (hw : w[a]? = some (.inl (2, n, .inr (.inl (f))))) (hin : ¬ (i < 0 ∨ n ≤ i.toNatClampNeg)) (hd : decode cc pc = .ok (.lastore, 1)) (k : pi_Wat p l e R s m args below meth c Q D cA A mi.2.1 ad (pc + 1, lv, r, w.set a (.inl (2, n, .inr (.inl (vp_updL f i.toNatClampNeg x))))) cu su) : pi_Wat p l e R s m args below meth c Q D cA A mi.2.1 ad (pc, lv, .long x :: .int i :: .ref a :: r, w) cu su := by
  intro H locs ls hP hD hS hl
  exact va_last C.1 C.2.1 C.2.2.2.2.1.1 hP hD hS a 2 (by rw [pi_rW_get, hw]; rfl) rfl hin hd (fun H1 locs1 p1 d1 s1 => k H1 locs1 ls (by show va_P _ _ (pi_rW _ _ _) _; rw [pi_rW_set]; exact p1) (by show va_D _ (pi_rW _ _ _); rw [pi_rW_set]; exact d1) s1 hl)
theorem ps_alen (C : pi_Cx p s m args meth c y cc mi D cA sa sv A) {pc : Nat} {lv : pi_L} {r : List Value} {w : pi_W} {a t : Nat} {x : vp_A} (hw : w[a]? = some (.inl (t, x))) (ht : t < 4) (hd : decode cc pc = .ok (.arraylength, 1)) (k : pi_Wat p l e R s m args below meth c Q D cA A mi.2.1 ad (pc + 1, lv, .int (Int32.ofNat x.1) :: r, w) cu su) : pi_Wat p l e R s m args below meth c Q D cA A mi.2.1 ad (pc, lv, .ref a :: r, w) cu su := by
  intro H locs ls hP hD hS hl
  obtain ⟨ty, hty⟩ : ∃ ty, (pi_tys cA)[t]? = some (cA t, ty) := by
    rcases (show t = 0 ∨ t = 1 ∨ t = 2 ∨ t = 3 by omega) with rfl | rfl | rfl | rfl <;> exact ⟨_, rfl⟩
  exact va_alen C.1 C.2.1 C.2.2.2.2.1.1 hP a t (by rw [pi_rW_get, hw]; rfl) hty rfl hd (k H locs ls hP hD hS hl)
theorem ps_getf (C : pi_Cx p s m args meth c y cc mi D cA sa sv A) {pc : Nat} {lv : pi_L} {r : List Value} {w : pi_W} {a cp ci j q : Nat} {v : Value} {fs : List Value} (hq : pi_look pi_fT mi.1 cp = some (ci, j, q)) (hw : w[a]? = some (.inr (ci, fs))) (hv : fs[j]? = some v) (hd : decode cc pc = .ok (.getfield cp, 3)) (k : pi_Wat p l e R s m args below meth c Q D cA A mi.2.1 ad (pc + 3, lv, v :: r, w) cu su) : pi_Wat p l e R s m args below meth c Q D cA A mi.2.1 ad (pc, lv, .ref a :: r, w) cu su := by
  intro H locs ls hP hD hS hl
  obtain ⟨t, ht, hm⟩ := pi_look_mem hq
  obtain ⟨Cn, T, N, h1, h2, h3⟩ := lf_all C.2.2.2.2.2.2.2.2.2.2.1 ht _ hm
  have hc := lc_all h1
  exact va_get C.1 C.2.1 C.2.2.2.1 (fun w hw => pi_good_of (hc.2.1 w hw) (pi_lays_good hw)) C.2.2.1 C.2.2.2.2.1.1 hP a (fs := fs.map (pi_rv ad)) (by rw [pi_rW_get, hw]; rfl) h1 j h2 (C.2.2.2.1 _ (pi_good_of h3 rfl)) (fun x h => h) (v := pi_rv ad v) (by rw [List.getElem?_map, hv]; rfl) hd (k H locs ls hP hD hS hl)
theorem ps_putf (C : pi_Cx p s m args meth c y cc mi D cA sa sv A) {pc : Nat} {lv : pi_L} {r : List Value} {w : pi_W} {a cp ci j q : Nat} {v : Value} {fs : List Value} (hq : pi_look pi_fT mi.1 cp = some (ci, j, q)) (hw : w[a]? = some (.inr (ci, fs))) (hj : j < fs.length) (hn : narrow (pi_ty ci j) v = v) (hf : fits (pi_ty ci j) v = true) (hi : (mi.2.2.2.1 = true ∧ ci = mi.1) ∨ (vwCl[ci]?.map (fun q => (q.2.1 j).2.2.2)) = some false) (hd : decode cc pc = .ok (.putfield cp, 3)) (k : pi_Wat p l e R s m args below meth c Q D cA A mi.2.1 ad (pc + 3, lv, r, w.set a (.inr (ci, fs.set j v))) cu su) : pi_Wat p l e R s m args below meth c Q D cA A mi.2.1 ad (pc, lv, v :: .ref a :: r, w) cu su := by
  intro H locs ls hP hD hS hl
  obtain ⟨t, ht, hm⟩ := pi_look_mem hq
  obtain ⟨Cn, T, N, h1, h2, h3⟩ := lf_all C.2.2.2.2.2.2.2.2.2.2.1 ht _ hm
  have hc := lc_all h1
  have hin : ∀ w ∈ u_ws Cn T N, w ∈ pi_good := fun w hw => pi_good_of (hc.2.1 w hw) (pi_lays_good hw)
  have he : (pi_rW cA ad w)[a]? = some (ad a, .inr (ci, fs.map (pi_rv ad))) := by rw [pi_rW_get, hw]; rfl
  have hl2 : j < (fs.map (pi_rv ad)).length := by rw [List.length_map]; exact hj
  have hk : ∀ (H1 : Heap) (locs1 : List Loc), va_P D vwCl ((pi_rW cA ad w).set a (ad a, .inr (ci, (fs.map (pi_rv ad)).set j (pi_rv ad v)))) H1 → va_D A ((pi_rW cA ad w).set a (ad a, .inr (ci, (fs.map (pi_rv ad)).set j (pi_rv ad v)))) → va_S A s.heap H1 locs1 → W p l e R s m args below meth c H1 locs1 cu su Q (F0 m (pc + 3) ls (r.map (pi_rv ad))) := by
    intro H1 locs1 p1 d1 s1
    have e1 : (pi_rW cA ad w).set a (ad a, .inr (ci, (fs.map (pi_rv ad)).set j (pi_rv ad v))) = pi_rW cA ad (w.set a (.inr (ci, fs.set j v))) := by
      rw [pi_rW_set]
      show _ = (pi_rW cA ad w).set a (ad a, .inr (ci, (fs.set j v).map (pi_rv ad)))
      rw [List.map_set]
    rw [e1] at p1 d1
    exact k H1 locs1 ls p1 d1 s1 hl
  cases hfin : (T j).2.2.2 with
  | false => exact va_put C.1 C.2.1 C.2.2.2.1 hin (pi_ty ci) hc.2.2.1 hc.2.2.2.1 C.2.2.1 C.2.2.2.2.1.1 hP hD hS a he h1 j h2 (C.2.2.2.1 _ (pi_good_of h3 rfl)) (fun x h => h) hfin (hc.2.2.1 j h2) (pi_nar hn) (pi_fit hf) hl2 hd hk
  | true =>
    have hi2 : mi.2.2.2.1 = true ∧ ci = mi.1 := by
      rcases hi with h | h
      · exact h
      · rw [h1] at h
        have h4 : (T j).2.2.2 = false := by simpa using h
        rw [hfin] at h4
        cases h4
    have hcn : Cn = y.cls := by
      have h5 := hc.1
      rw [hi2.2, C.2.2.2.2.2.2.2.2.2.2.1] at h5
      exact (Option.some.inj h5).symm
    have hnm : meth.name = "<init>" := C.2.2.2.2.2.2.2.2.1.trans (C.2.2.2.2.2.2.2.2.2.1 hi2.1)
    exact va_putF C.1 C.2.1 C.2.2.2.1 hin (pi_ty ci) hc.2.2.1 hc.2.2.2.1 C.2.2.1 C.2.2.2.2.1.1 hP hD hS a he h1 j h2 (C.2.2.2.1 _ (pi_good_of h3 rfl)) (fun x h => h) hfin hnm ((hc.2.2.2.2.2.2 j h2).trans hcn) (hc.2.2.1 j h2) (pi_nar hn) (pi_fit hf) hl2 hd hk
end PIW
end
section
section PIT
variable {p : Program} {l : Launch} {e : Env} {R : Room} {s : State} {m : MethodId} {args : Array Value} {below : List Frame} {meth : Method} {c : Code} {Q : State → Prop} {D : va_G} {cA : Nat → ClassId} {sa sv : Nat} {A : Nat → Prop} {y : MethodName} {cc : ByteArray} {mi : pi_M} {ad : Nat → Nat} {cu su : Nat}
set_option maxHeartbeats 4000000 in
theorem ps_step (C : pi_Cx p s m args meth c y cc mi D cA sa sv A) (hsa : ad pi_str = sa) {i : Instr} {len : Nat} {σ σ' : pi_S} (h : pi_step mi.1 mi.2.2.2.1 mi.2.1 i len σ = some σ') (hd : decode cc σ.1 = .ok (i, len)) :
    σ'.2.2.2.length = σ.2.2.2.length ∧ (pi_Wat p l e R s m args below meth c Q D cA A mi.2.1 ad σ' cu su → pi_Wat p l e R s m args below meth c Q D cA A mi.2.1 ad σ cu su) := by
  obtain ⟨pc, lv, st, w⟩ := σ
  dsimp only at hd
  cases i
  case iconst n =>
    simp only [pi_step] at h
    split at h
    · rename_i hlen; subst hlen
      cases h; exact ⟨rfl, ps_iconst C hd⟩
    · cases h
  case bipush n =>
    simp only [pi_step] at h
    split at h
    · rename_i hlen; subst hlen
      cases h; exact ⟨rfl, ps_bipush C hd⟩
    · cases h
  case sipush n =>
    simp only [pi_step] at h
    split at h
    · rename_i hlen; subst hlen
      cases h; exact ⟨rfl, ps_sipush C hd⟩
    · cases h
  case lconst n =>
    simp only [pi_step] at h
    split at h
    · rename_i hlen; subst hlen
      cases h; exact ⟨rfl, ps_lconst C hd⟩
    · cases h
  case iadd =>
    simp only [pi_step] at h
    split at h
    · rename_i hlen; subst hlen
      split at h
      · cases h; exact ⟨rfl, ps_iadd C hd⟩
      · cases h
    · cases h
  case isub =>
    simp only [pi_step] at h
    split at h
    · rename_i hlen; subst hlen
      split at h
      · cases h; exact ⟨rfl, ps_isub C hd⟩
      · cases h
    · cases h
  case imul =>
    simp only [pi_step] at h
    split at h
    · rename_i hlen; subst hlen
      split at h
      · cases h; exact ⟨rfl, ps_imul C hd⟩
      · cases h
    · cases h
  case iand =>
    simp only [pi_step] at h
    split at h
    · rename_i hlen; subst hlen
      split at h
      · cases h; exact ⟨rfl, ps_iand C hd⟩
      · cases h
    · cases h
  case ior =>
    simp only [pi_step] at h
    split at h
    · rename_i hlen; subst hlen
      split at h
      · cases h; exact ⟨rfl, ps_ior C hd⟩
      · cases h
    · cases h
  case ixor =>
    simp only [pi_step] at h
    split at h
    · rename_i hlen; subst hlen
      split at h
      · cases h; exact ⟨rfl, ps_ixor C hd⟩
      · cases h
    · cases h
  case ishl =>
    simp only [pi_step] at h
    split at h
    · rename_i hlen; subst hlen
      split at h
      · cases h; exact ⟨rfl, ps_ishl C hd⟩
      · cases h
    · cases h
  case ishr =>
    simp only [pi_step] at h
    split at h
    · rename_i hlen; subst hlen
      split at h
      · cases h; exact ⟨rfl, ps_ishr C hd⟩
      · cases h
    · cases h
  case iushr =>
    simp only [pi_step] at h
    split at h
    · rename_i hlen; subst hlen
      split at h
      · cases h; exact ⟨rfl, ps_iushr C hd⟩
      · cases h
    · cases h
  case ladd =>
    simp only [pi_step] at h
    split at h
    · rename_i hlen; subst hlen
      split at h
      · cases h; exact ⟨rfl, ps_ladd C hd⟩
      · cases h
    · cases h
  case lmul =>
    simp only [pi_step] at h
    split at h
    · rename_i hlen; subst hlen
      split at h
      · cases h; exact ⟨rfl, ps_lmul C hd⟩
      · cases h
    · cases h
  case lor =>
    simp only [pi_step] at h
    split at h
    · rename_i hlen; subst hlen
      split at h
      · cases h; exact ⟨rfl, ps_lor C hd⟩
      · cases h
    · cases h
  case lshl =>
    simp only [pi_step] at h
    split at h
    · rename_i hlen; subst hlen
      split at h
      · cases h; exact ⟨rfl, ps_lshl C hd⟩
      · cases h
    · cases h
  case lcmp =>
    simp only [pi_step] at h
    split at h
    · rename_i hlen; subst hlen
      split at h
      · cases h; exact ⟨rfl, ps_lcmp C hd⟩
      · cases h
    · cases h
  case i2b =>
    simp only [pi_step] at h
    split at h
    · rename_i hlen; subst hlen
      split at h
      · cases h; exact ⟨rfl, ps_i2b C hd⟩
      · cases h
    · cases h
  case i2l =>
    simp only [pi_step] at h
    split at h
    · rename_i hlen; subst hlen
      split at h
      · cases h; exact ⟨rfl, ps_i2l C hd⟩
      · cases h
    · cases h
  case irem =>
    simp only [pi_step] at h
    split at h
    · rename_i hlen; subst hlen
      split at h
      · split at h
        · cases h
        · rename_i hy
          cases h; exact ⟨rfl, ps_irem C hd hy⟩
      · cases h
    · cases h
  case ldc n =>
    simp only [pi_step] at h
    split at h
    · rename_i hlen; subst hlen
      split at h
      · rename_i hq
        cases h; exact ⟨rfl, ps_ldc C hq hd⟩
      · split at h
        · rename_i ho
          obtain ⟨h1, rfl⟩ := ho
          cases h; exact ⟨rfl, ps_ldcS C hsa h1 hd⟩
        · cases h
    · cases h
  case ldc_w n =>
    simp only [pi_step] at h
    split at h
    · rename_i hlen; subst hlen
      split at h
      · rename_i hq
        cases h; exact ⟨rfl, ps_ldc_w C hq hd⟩
      · cases h
    · cases h
  case ldc2_w n =>
    simp only [pi_step] at h
    split at h
    · rename_i hlen; subst hlen
      split at h
      · rename_i hq
        cases h; exact ⟨rfl, ps_ldc2 C hq hd⟩
      · cases h
    · cases h
  case iload n =>
    simp only [pi_step] at h
    split at h
    · rename_i hlen; subst hlen
      split at h
      · rename_i hq
        cases h; exact ⟨rfl, ps_iload C hq hd⟩
      · cases h
    · cases h
  case iload_n n =>
    simp only [pi_step] at h
    split at h
    · rename_i hlen; subst hlen
      split at h
      · rename_i hq
        cases h; exact ⟨rfl, ps_iload_n C hq hd⟩
      · cases h
    · cases h
  case lload_n n =>
    simp only [pi_step] at h
    split at h
    · rename_i hlen; subst hlen
      split at h
      · rename_i hq
        cases h; exact ⟨rfl, ps_lload_n C hq hd⟩
      · cases h
    · cases h
  case aload_n n =>
    simp only [pi_step] at h
    split at h
    · rename_i hlen; subst hlen
      split at h
      · rename_i hq
        cases h; exact ⟨rfl, ps_aload_n C hq hd⟩
      · cases h
    · cases h
  case istore n =>
    simp only [pi_step] at h
    split at h
    · rename_i hlen; obtain ⟨rfl, hn⟩ := hlen
      split at h
      · cases h; exact ⟨rfl, ps_istore C hn hd⟩
      · cases h
    · cases h
  case istore_n n =>
    simp only [pi_step] at h
    split at h
    · rename_i hlen; obtain ⟨rfl, hn⟩ := hlen
      split at h
      · cases h; exact ⟨rfl, ps_istore_n C hn hd⟩
      · cases h
    · cases h
  case iinc n j =>
    simp only [pi_step] at h
    split at h
    · rename_i hlen; obtain ⟨rfl, hn⟩ := hlen
      split at h
      · rename_i hq
        cases h; exact ⟨rfl, ps_iinc C hq hn hd⟩
      · cases h
    · cases h
  case dup =>
    simp only [pi_step] at h
    split at h
    · rename_i hlen; subst hlen
      split at h
      · split at h
        · rename_i hv
          cases h; exact ⟨rfl, ps_dup C hv hd⟩
        · cases h
      · cases h
    · cases h
  case pop =>
    simp only [pi_step] at h
    split at h
    · rename_i hlen; subst hlen
      split at h
      · split at h
        · rename_i hv
          cases h; exact ⟨rfl, ps_pop C hv hd⟩
        · cases h
      · cases h
    · cases h
  case dup2 =>
    simp only [pi_step] at h
    split at h
    · rename_i hlen; subst hlen
      split at h
      · split at h
        · rename_i hv
          cases h; exact ⟨rfl, ps_dup2 C hv.1 hv.2 hd⟩
        · cases h
      · cases h
    · cases h
  case ifCond cd off =>
    simp only [pi_step] at h
    split at h
    · rename_i hlen; subst hlen
      split at h
      · split at h
        · cases h
        · rename_i t ht
          split at h
          · rename_i hc
            cases h; exact ⟨rfl, ps_if1 C ht hc hd⟩
          · rename_i hc
            cases h; exact ⟨rfl, ps_if0 C hc hd ⟨t, pi_tgt_of ht⟩⟩
      · cases h
    · cases h
  case if_icmp cd off =>
    simp only [pi_step] at h
    split at h
    · rename_i hlen; subst hlen
      split at h
      · split at h
        · cases h
        · rename_i t ht
          split at h
          · rename_i hc
            cases h; exact ⟨rfl, ps_ic1 C ht hc hd⟩
          · rename_i hc
            cases h; exact ⟨rfl, ps_ic0 C hc hd ⟨t, pi_tgt_of ht⟩⟩
      · cases h
    · cases h
  case goto off =>
    simp only [pi_step] at h
    split at h
    · rename_i hlen; subst hlen
      obtain ⟨t, ht, rfl⟩ := pi_jump_of h
      exact ⟨rfl, ps_goto C ht hd⟩
    · cases h
  case tableswitch dflt lo hi offs =>
    simp only [pi_step] at h
    split at h
    · split at h
      · rename_i hx
        obtain ⟨t, ht, rfl⟩ := pi_jump_of h
        exact ⟨rfl, ps_tabOut C hx ht hd⟩
      · rename_i hx
        split at h
        · rename_i ho
          obtain ⟨t, ht, rfl⟩ := pi_jump_of h
          exact ⟨rfl, ps_tabIn C hx ho ht hd⟩
        · cases h
    · cases h
  case lookupswitch dflt ps =>
    simp only [pi_step] at h
    split at h
    · split at h
      · rename_i hp
        obtain ⟨t, ht, rfl⟩ := pi_jump_of h
        exact ⟨rfl, ps_lookup C hp ht hd⟩
      · cases h
    · cases h
  case iaload =>
    simp only [pi_step] at h
    split at h
    · rename_i hlen; subst hlen
      split at h
      · split at h
        · rename_i hw
          split at h
          · cases h
          · rename_i hin
            cases h; exact ⟨rfl, ps_iald C hw hin hd⟩
        · cases h
      · cases h
    · cases h
  case baload =>
    simp only [pi_step] at h
    split at h
    · rename_i hlen; subst hlen
      split at h
      · split at h
        · rename_i hw
          split at h
          · cases h
          · rename_i hin
            cases h; exact ⟨rfl, ps_bald C hw hin hd⟩
        · rename_i hw
          split at h
          · cases h
          · rename_i hin
            cases h; exact ⟨rfl, ps_zald C hw hin hd⟩
        · cases h
      · cases h
    · cases h
  case laload =>
    simp only [pi_step] at h
    split at h
    · rename_i hlen; subst hlen
      split at h
      · split at h
        · rename_i hw
          split at h
          · cases h
          · rename_i hin
            cases h; exact ⟨rfl, ps_lald C hw hin hd⟩
        · cases h
      · cases h
    · cases h
  case iastore =>
    simp only [pi_step] at h
    split at h
    · rename_i hlen; subst hlen
      split at h
      · split at h
        · rename_i hw
          split at h
          · cases h
          · rename_i hin
            cases h; exact ⟨List.length_set, ps_iast C hw hin hd⟩
        · cases h
      · cases h
    · cases h
  case bastore =>
    simp only [pi_step] at h
    split at h
    · rename_i hlen; subst hlen
      split at h
      · split at h
        · rename_i hw
          split at h
          · cases h
          · rename_i hin
            cases h; exact ⟨List.length_set, ps_bast C hw hin hd⟩
        · rename_i hw
          split at h
          · cases h
          · rename_i hin
            cases h; exact ⟨List.length_set, ps_zast C hw hin hd⟩
        · cases h
      · cases h
    · cases h
  case lastore =>
    simp only [pi_step] at h
    split at h
    · rename_i hlen; subst hlen
      split at h
      · split at h
        · rename_i hw
          split at h
          · cases h
          · rename_i hin
            cases h; exact ⟨List.length_set, ps_last C hw hin hd⟩
        · cases h
      · cases h
    · cases h
  case arraylength =>
    simp only [pi_step] at h
    split at h
    · rename_i hlen; subst hlen
      split at h
      · split at h
        · rename_i hw
          split at h
          · rename_i ht
            cases h; exact ⟨rfl, ps_alen C hw ht hd⟩
          · cases h
        · cases h
      · cases h
    · cases h
  case getfield cp =>
    simp only [pi_step] at h
    split at h
    · rename_i hlen; subst hlen
      split at h
      · split at h
        · rename_i hq
          split at h
          · rename_i hw
            split at h
            · rename_i hc; subst hc
              split at h
              · rename_i hv
                cases h; exact ⟨rfl, ps_getf C hq hw hv hd⟩
              · cases h
            · cases h
          · cases h
        · cases h
      · cases h
    · cases h
  case putfield cp =>
    simp only [pi_step] at h
    split at h
    · rename_i hlen; subst hlen
      split at h
      · split at h
        · rename_i hq
          split at h
          · rename_i hw
            split at h
            · rename_i hc; obtain ⟨rfl, hj, hn, hf, hi⟩ := hc
              cases h; exact ⟨List.length_set, ps_putf C hq hw hj hn hf hi hd⟩
            · cases h
          · cases h
        · cases h
      · cases h
    · cases h
  all_goals (exact absurd h (by simp [pi_step]))
end PIT
end
section
/-! ===== whatever pi_run answers, the machine does ===== -/
def pi_ext (ad ad' : Nat → Nat) (w w' : pi_W) : Prop := w.length ≤ w'.length ∧ (∀ k, k < w.length ∨ k = pi_str → ad' k = ad k) ∧ (w'.length = w.length → ad' = ad)
theorem pi_ext.rf (ad : Nat → Nat) (w : pi_W) : pi_ext ad ad w w := ⟨Nat.le_refl _, fun _ _ => rfl, fun _ => rfl⟩
theorem pi_ext.len {ad : Nat → Nat} {w w' : pi_W} (h : w'.length = w.length) : pi_ext ad ad w w' := ⟨Nat.le_of_eq h.symm, fun _ _ => rfl, fun _ => rfl⟩
theorem pi_ext.tr {ad ad1 ad2 : Nat → Nat} {w w1 w2 : pi_W} (h1 : pi_ext ad ad1 w w1) (h2 : pi_ext ad1 ad2 w1 w2) : pi_ext ad ad2 w w2 := by
  refine ⟨Nat.le_trans h1.1 h2.1, fun k hk => ?_, fun e => ?_⟩
  · rw [h2.2.1 k (hk.imp (fun q => Nat.lt_of_lt_of_le q h1.1) id), h1.2.1 k hk]
  · have a := h1.1
    have b := h2.1
    rw [h2.2.2 (by omega), h1.2.2 (by omega)]
theorem pi_rv_wf {ad ad' : Nat → Nat} {n : Nat} {v : Value} (h : pi_wfV n v = true) (he : ∀ k, k < n ∨ k = pi_str → ad' k = ad k) : pi_rv ad' v = pi_rv ad v := by
  cases v with
  | ref a =>
    have h1 : a < n ∨ a = pi_str := by simpa [pi_wfV] using h
    show Value.ref (ad' a) = Value.ref (ad a)
    rw [he a h1]
  | _ => rfl
theorem pi_rs_wf {ad ad' : Nat → Nat} {n : Nat} {st : List Value} (h : st.all (pi_wfV n) = true) (he : ∀ k, k < n ∨ k = pi_str → ad' k = ad k) : st.map (pi_rv ad') = st.map (pi_rv ad) := by
  refine List.map_congr_left fun v hv => pi_rv_wf (List.all_eq_true.mp h v hv) he
theorem pi_rL_wf {ad ad' : Nat → Nat} {n : Nat} {lv : pi_L} (h : pi_wfL n lv = true) (he : ∀ k, k < n ∨ k = pi_str → ad' k = ad k) : pi_rL ad' lv = pi_rL ad lv := by
  refine List.map_congr_left fun q hq => ?_
  rw [pi_rv_wf (List.all_eq_true.mp h q hq) he]
theorem pi_rW_wf {cA : Nat → ClassId} {ad ad' : Nat → Nat} {w : pi_W} (h : pi_wfW w.length w = true) (he : ∀ k, k < w.length ∨ k = pi_str → ad' k = ad k) : pi_rW cA ad' w = pi_rW cA ad w := by
  apply List.ext_getElem?
  intro j
  rw [pi_rW_get, pi_rW_get]
  cases hj : w[j]? with
  | none => rfl
  | some e =>
    have h1 := List.all_eq_true.mp h e (List.mem_of_getElem? hj)
    have h2 : j < w.length := (List.getElem?_eq_some_iff.mp hj).1
    show some (ad' j, pi_rE cA ad' e) = some (ad j, pi_rE cA ad e)
    rw [he j (Or.inl h2)]
    cases e with
    | inl a => rfl
    | inr a =>
      obtain ⟨ci, fs⟩ := a
      show some (ad j, Sum.inr (ci, fs.map (pi_rv ad'))) = some (ad j, Sum.inr (ci, fs.map (pi_rv ad)))
      rw [pi_rs_wf h1 he]
theorem pi_rW_app (cA : Nat → ClassId) (ad : Nat → Nat) (w : pi_W) (e : pi_E) : pi_rW cA ad (w ++ [e]) = pi_rW cA ad w ++ [(ad w.length, pi_rE cA ad e)] := by
  simp [pi_rW, List.mapIdx_append]
theorem pi_wf_of {lv : pi_L} {st : List Value} {w : pi_W} (h : pi_wf lv st w = true) : w.length < pi_str ∧ pi_wfL w.length lv = true ∧ st.all (pi_wfV w.length) = true ∧ pi_wfW w.length w = true := by
  unfold pi_wf at h
  simp only [Bool.and_eq_true, decide_eq_true_eq] at h
  exact ⟨h.1.1.1, h.1.1.2, h.1.2, h.2⟩
theorem pi_dflt_rv (ad : Nat → Nat) (ci N : Nat) : (pi_dflt ci N).map (pi_rv ad) = pi_dflt ci N := by
  unfold pi_dflt
  rw [List.map_map]
  refine List.map_congr_left fun k _ => ?_
  show pi_rv ad (defaultValue (pi_ty ci k)) = defaultValue (pi_ty ci k)
  cases pi_ty ci k <;> rfl
theorem pi_upd_ext {ad : Nat → Nat} {w : pi_W} {e : pi_E} {q : Nat} (hw : w.length < pi_str) : pi_ext ad (fun j => if j = w.length then q else ad j) w (w ++ [e]) := by
  refine ⟨by simp, fun k hk => ?_, fun h => ?_⟩
  · have : k ≠ w.length := by rcases hk with h | h <;> omega
    simp [this]
  · simp at h
section PIN
variable {p : Program} {l : Launch} {e : Env} {R : Room} {s : State} {m : MethodId} {args : Array Value} {below : List Frame} {meth : Method} {c : Code} {Q : State → Prop} {D : va_G} {cA : Nat → ClassId} {sa sv : Nat} {A : Nat → Prop} {y : MethodName} {cc : ByteArray} {mi : pi_M} {ad : Nat → Nat} {cu su : Nat}
theorem ps_newo (C : pi_Cx p s m args meth c y cc mi D cA sa sv A) {pc : Nat} {lv : pi_L} {r : List Value} {w : pi_W} {n ci q N : Nat} {Cn : String} {T : u_T} (hq : pi_look pi_nT mi.1 n = some (ci, q)) (h1 : vwCl[ci]? = some (Cn, T, N)) (hw : pi_wf lv r w = true) (hcells : cu + 1 ≤ R.cells) (hslots : su + N ≤ R.slots) (hd : decode cc pc = .ok (.new n, 3))
    (k : ∀ ad' : Nat → Nat, pi_ext ad ad' w (w ++ [.inr (ci, pi_dflt ci N)]) → pi_Wat p l e R s m args below meth c Q D cA A mi.2.1 ad' (pc + 3, lv, .ref w.length :: r, w ++ [.inr (ci, pi_dflt ci N)]) (cu + 1) (su + N)) : pi_Wat p l e R s m args below meth c Q D cA A mi.2.1 ad (pc, lv, r, w) cu su := by
  intro H locs ls hP hD hS hl
  obtain ⟨t, ht, hm⟩ := pi_look_mem hq
  obtain ⟨Cn', T', N', h1', h3⟩ := ln_all C.2.2.2.2.2.2.2.2.2.2.1 ht _ hm
  cases h1.symm.trans h1'
  have hc := lc_all h1
  obtain ⟨w0, w1, w2, w3⟩ := pi_wf_of hw
  refine va_new (ci := ci) (fs := pi_dflt ci N) (C := Cn) (T := T) (N := N) C.1 C.2.1 C.2.2.2.1 (fun w hw => pi_good_of (hc.2.1 w hw) (pi_lays_good hw)) (pi_ty ci) hc.2.2.1 C.2.2.1 (C.2.2.2.1 _ (pi_good_of h3 rfl)) (C.2.2.2.1 _ (pi_good_of hc.2.2.2.2.1 rfl)) (C.2.2.2.1 _ (pi_good_of hc.2.2.2.2.2.1 rfl)) C.2.2.2.2.1.1 hP hD hS C.2.2.2.2.2.2.2.2.2.2.2 h1 ?_ hcells hslots hd ?_
  · intro j hj
    simp [vp_V, pi_dflt, hj]
  · intro qn H1 p1 d1 s1
    have he := pi_upd_ext (ad := ad) (e := (.inr (ci, pi_dflt ci N) : pi_E)) (q := qn) w0
    have k := k _ he H1 locs ls
    have e1 : pi_rW cA (fun j => if j = w.length then qn else ad j) (w ++ [.inr (ci, pi_dflt ci N)]) = pi_rW cA ad w ++ [(qn, .inr (ci, pi_dflt ci N))] := by
      rw [pi_rW_app, pi_rW_wf w3 he.2.1]
      show _ ++ [(_, Sum.inr (ci, (pi_dflt ci N).map _))] = _
      rw [pi_dflt_rv]
      simp
    have e2 : (pi_rv (fun j => if j = w.length then qn else ad j) (.ref w.length)) = .ref qn := by simp [pi_rv]
    dsimp only at k
    rw [e1, pi_rL_wf w1 he.2.1, List.map_cons, pi_rs_wf w2 he.2.1, e2] at k
    exact k p1 d1 s1 hl
theorem pi_RA {cA' : ClassId} {t : Nat} {ty : FieldType} (hK : va_K D vwCl (pi_tys cA) s) (ht : (pi_tys cA)[t]? = some (cA t, ty)) (hn : ∀ C, ty ≠ .object C) (h : va_RA s cA' ty) : cA' = cA t := by
  have h2 := (hK.2 t _ ht).2
  cases ty with
  | object C => exact absurd rfl (hn C)
  | _ => exact Option.some.inj (Eq.trans (Eq.symm h) h2)
theorem ps_newa (C : pi_Cx p s m args meth c y cc mi D cA sa sv A) {pc : Nat} {lv : pi_L} {r : List Value} {w : pi_W} {n : Int32} {t : Nat} {at0 : ArrayType} {ty : FieldType} {cn : (Nat → Int32) ⊕ (Nat → Int64) ⊕ (Nat → UInt32) ⊕ (Nat → UInt64) ⊕ (Nat → Option Nat)} (hty : newarray.typeOf at0 = ty) (ht : (pi_tys cA)[t]? = some (cA t, ty)) (hno : ∀ C, ty ≠ .object C) (hword : Cond.arrayClass ty ∈ lw_tbl) (hcb : componentBytes ty ≤ 8) (hcn : ∀ (cA : ClassId) (N : Nat), vp_cell cA (N, cn) = arrV cA N (fun _ => defaultValue ty)) (hn : ¬ (n < 0 ∨ 100000 < n.toNatClampNeg)) (hw : pi_wf lv (.int n :: r) w = true) (hcells : cu + 1 ≤ R.cells) (hslots : su + n.toNatClampNeg ≤ R.slots) (hd : decode cc pc = .ok (.newarray at0, 2))
    (k : ∀ ad' : Nat → Nat, pi_ext ad ad' w (w ++ [.inl (t, n.toNatClampNeg, cn)]) → pi_Wat p l e R s m args below meth c Q D cA A mi.2.1 ad' (pc + 2, lv, .ref w.length :: r, w ++ [.inl (t, n.toNatClampNeg, cn)]) (cu + 1) (su + n.toNatClampNeg)) : pi_Wat p l e R s m args below meth c Q D cA A mi.2.1 ad (pc, lv, .int n :: r, w) cu su := by
  intro H locs ls hP hD hS hl
  obtain ⟨w0, w1, w2, w3⟩ := pi_wf_of hw
  have w2 : r.all (pi_wfV w.length) = true := by
    rw [List.all_cons, Bool.and_eq_true] at w2
    exact w2.2
  have hb : n.toNatClampNeg * componentBytes ty ≤ 536870912 := by
    have h1 : n.toNatClampNeg ≤ 100000 := Nat.not_lt.mp fun q => hn (Or.inr q)
    calc n.toNatClampNeg * componentBytes ty ≤ 100000 * 8 := Nat.mul_le_mul h1 hcb
      _ ≤ 536870912 := by decide
  refine va_newa (a0 := (n.toNatClampNeg, cn)) C.1 C.2.1 (by rw [hty]; exact C.2.2.2.1 _ (pi_good_of hword rfl)) hty C.2.2.2.2.1.1 hP hD hS C.2.2.2.2.2.2.2.2.2.2.2 (fun cA => hcn cA _) (fun q => hn (Or.inl q)) rfl hb hcells hslots hd ?_
  intro qn cA' H1 hK1 p1 d1 s1
  have hcA : cA' = cA t := pi_RA C.2.2.2.2.1.1 ht hno (hK1.2 4 (cA', ty) rfl).2
  subst hcA
  have he := pi_upd_ext (ad := ad) (e := (.inl (t, n.toNatClampNeg, cn) : pi_E)) (q := qn) w0
  have k := k _ he H1 locs ls
  have e1 : pi_rW cA (fun j => if j = w.length then qn else ad j) (w ++ [.inl (t, n.toNatClampNeg, cn)]) = pi_rW cA ad w ++ [(qn, .inl (cA t, n.toNatClampNeg, cn))] := by
    rw [pi_rW_app, pi_rW_wf w3 he.2.1]
    show _ ++ [(_, Sum.inl (cA t, _))] = _
    simp
  have e2 : (pi_rv (fun j => if j = w.length then qn else ad j) (.ref w.length)) = .ref qn := by simp [pi_rv]
  dsimp only at k
  rw [e1, pi_rL_wf w1 he.2.1, List.map_cons, pi_rs_wf w2 he.2.1, e2] at k
  exact k p1 d1 s1 hl
theorem wd_aI : Cond.arrayClass .int ∈ lw_tbl := List.mem_of_getElem? (i := 234) (by decide +kernel)
theorem wd_aB : Cond.arrayClass .byte ∈ lw_tbl := List.mem_of_getElem? (i := 216) (by decide +kernel)
theorem wd_aL : Cond.arrayClass .long ∈ lw_tbl := List.mem_of_getElem? (i := 217) (by decide +kernel)
theorem wd_aZ : Cond.arrayClass .boolean ∈ lw_tbl := List.mem_of_getElem? (i := 1383) (by decide +kernel)
theorem ps_new (C : pi_Cx p s m args meth c y cc mi D cA sa sv A) {i : Instr} {len k : Nat} {σ σ' : pi_S} (h : pi_new mi.1 i len σ = some (σ', k)) (hd : decode cc σ.1 = .ok (i, len)) (hcells : cu + 1 ≤ R.cells) (hslots : su + k ≤ R.slots)
    (kk : ∀ ad' : Nat → Nat, pi_ext ad ad' σ.2.2.2 σ'.2.2.2 → pi_Wat p l e R s m args below meth c Q D cA A mi.2.1 ad' σ' (cu + 1) (su + k)) : pi_Wat p l e R s m args below meth c Q D cA A mi.2.1 ad σ cu su := by
  obtain ⟨pc, lv, st, w⟩ := σ
  dsimp only at hd
  cases i
  case new n =>
    simp only [pi_new] at h
    split at h
    · rename_i hw; obtain ⟨rfl, hw⟩ := hw
      split at h
      · rename_i hq
        split at h
        · rename_i h1
          cases h
          exact ps_newo C hq h1 hw hcells hslots hd kk
        · cases h
      · cases h
    · cases h
  case newarray at0 =>
    simp only [pi_new] at h
    split at h
    · rename_i hw; obtain ⟨rfl, hw⟩ := hw
      split at h
      · split at h
        · cases h
        · rename_i hn
          split at h
          · cases h
            exact ps_newa C (ty := .int) (t := 0) rfl rfl (fun _ h => by cases h) wd_aI (by decide) (fun _ _ => rfl) hn hw hcells hslots hd kk
          · cases h
            exact ps_newa C (ty := .byte) (t := 1) rfl rfl (fun _ h => by cases h) wd_aB (by decide) (fun _ _ => rfl) hn hw hcells hslots hd kk
          · cases h
            exact ps_newa C (ty := .long) (t := 2) rfl rfl (fun _ h => by cases h) wd_aL (by decide) (fun _ _ => rfl) hn hw hcells hslots hd kk
          · cases h
            exact ps_newa C (ty := .boolean) (t := 3) rfl rfl (fun _ h => by cases h) wd_aZ (by decide) (fun _ _ => rfl) hn hw hcells hslots hd kk
          · cases h
      · cases h
    · cases h
  all_goals (exact absurd h (by simp [pi_new]))
end PIN
end
section
/-! ===== one turn of pi_run, taken apart ===== -/
theorem pi_fetch_mem {tab : List (Nat × Instr × Nat)} {pc : Nat} {i : Instr} {len : Nat} (h : pi_fetch tab pc = some (i, len)) : (pc, i, len) ∈ tab := by
  unfold pi_fetch at h
  cases hf : tab.find? (fun q => q.1 == pc) with
  | none => rw [hf] at h; cases h
  | some q =>
    rw [hf] at h
    have h0 : q.2 = (i, len) := Option.some.inj h
    have h1 := List.find?_some hf
    have h2 := List.mem_of_find?_eq_some hf
    have h3 : q.1 = pc := by simpa using h1
    rw [← h3, ← h0]
    exact h2
def pi_vEnd (mi : pi_M) (s : pi_S) (cu su : Nat) (i : Instr) (len : Nat) (res : pi_R) : Prop := ∃ r, pi_end mi.2.2.1 i len s = some r ∧ res = (r, s.2.2.2, cu, su)
def pi_vSpec (n d : Nat) (mi : pi_M) (s : pi_S) (cu su : Nat) (i : Instr) (len : Nat) (res : pi_R) : Prop := ∃ cp kinds kind z na q s', pi_inv i = some (cp, kinds) ∧ pi_look pi_iT mi.1 cp = some (kind, z, na, q) ∧ kinds.contains kind = true ∧ len = 3 ∧ 3 < kind ∧ ¬ (d < 5 ∧ (kind = 6 ∨ kind = 7)) ∧ pi_spec kind s = some s' ∧ pi_run n d mi s' cu su = some res
def pi_vCall (n d : Nat) (mi : pi_M) (s : pi_S) (cu su : Nat) (i : Instr) (len : Nat) (res : pi_R) : Prop := ∃ cp kinds kind z na q d' y cc mz As rest r w' c' u', pi_inv i = some (cp, kinds) ∧ pi_look pi_iT mi.1 cp = some (kind, z, na, q) ∧ kinds.contains kind = true ∧ len = 3 ∧ kind ≤ 3 ∧ d = d' + 1 ∧ pi_mt[z]? = some (y, cc, mz) ∧ pi_args kind na mz s = some (As, rest) ∧ pi_run n d' mz (0, lv_args 0 As, [], s.2.2.2) 0 0 = some (r, w', c', u') ∧ pi_keep s.2.1 rest s.2.2.2 w' = true ∧ pi_run n d mi (s.1 + 3, s.2.1, r.toList ++ rest, w') (cu + c') (su + u') = some res
def pi_vNew (n d : Nat) (mi : pi_M) (s : pi_S) (cu su : Nat) (i : Instr) (len : Nat) (res : pi_R) : Prop := ∃ s' k, pi_new mi.1 i len s = some (s', k) ∧ pi_run n d mi s' (cu + 1) (su + k) = some res
def pi_vStep (n d : Nat) (mi : pi_M) (s : pi_S) (cu su : Nat) (i : Instr) (len : Nat) (res : pi_R) : Prop := ∃ s', pi_step mi.1 mi.2.2.2.1 mi.2.1 i len s = some s' ∧ pi_run n d mi s' cu su = some res
theorem pi_run_inv {n d : Nat} {mi : pi_M} {s : pi_S} {cu su : Nat} {res : pi_R} (h : pi_run (n + 1) d mi s cu su = some res) : ∃ i len, pi_fetch mi.2.2.2.2 s.1 = some (i, len) ∧ (pi_vEnd mi s cu su i len res ∨ pi_vSpec n d mi s cu su i len res ∨ pi_vCall n d mi s cu su i len res ∨ pi_vNew n d mi s cu su i len res ∨ pi_vStep n d mi s cu su i len res) := by
  rw [pi_run] at h
  split at h
  · cases h
  · rename_i i len hf
    refine ⟨i, len, hf, ?_⟩
    split at h
    · split at h
      · cases h
      · rename_i r hr
        exact Or.inl ⟨r, hr, (Option.some.inj h).symm⟩
    · split at h
      · rename_i cp kinds hi
        split at h
        · cases h
        · rename_i kind z na q hl
          split at h
          · cases h
          · rename_i hk
            have hk1 : kinds.contains kind = true := by
              cases hc : kinds.contains kind with
              | true => rfl
              | false => exact absurd (Or.inl hc) hk
            have hk2 : len = 3 := by
              rcases Nat.decEq len 3 with hn | hn
              · exact absurd (Or.inr hn) hk
              · exact hn
            split at h
            · rename_i h3
              split at h
              · cases h
              · rename_i h5
                split at h
                · cases h
                · rename_i s' hs
                  exact Or.inr (Or.inl ⟨cp, kinds, kind, z, na, q, s', hi, hl, hk1, hk2, h3, h5, hs, h⟩)
            · rename_i h3
              split at h
              · rename_i d' y cc mz hz
                split at h
                · cases h
                · rename_i As rest ha
                  split at h
                  · cases h
                  · rename_i r w' c' u' hr
                    split at h
                    · rename_i hkp
                      exact Or.inr (Or.inr (Or.inl ⟨cp, kinds, kind, z, na, q, d', y, cc, mz, As, rest, r, w', c', u', hi, hl, hk1, hk2, Nat.not_lt.mp h3, rfl, hz, ha, hr, hkp, h⟩))
                    · cases h
              · cases h
      · split at h
        · split at h
          · cases h
          · rename_i s' k hs
            exact Or.inr (Or.inr (Or.inr (Or.inl ⟨s', k, hs, h⟩)))
        · split at h
          · cases h
          · rename_i s' hs
            exact Or.inr (Or.inr (Or.inr (Or.inr ⟨s', hs, h⟩)))
theorem pi_mono : ∀ (n d : Nat) (mi : pi_M) (s : pi_S) (cu su : Nat) (r : Option Value) (w' : pi_W) (c' u' : Nat), pi_run n d mi s cu su = some (r, w', c', u') → cu ≤ c' ∧ su ≤ u'
  | 0, _, _, _, _, _, _, _, _, _, h => by cases h
  | n + 1, d, mi, s, cu, su, r, w', c', u', h => by
    obtain ⟨i, len, -, h⟩ := pi_run_inv h
    rcases h with ⟨r', -, h⟩ | ⟨_, _, _, _, _, _, s', -, -, -, -, -, -, -, h⟩ | ⟨_, _, _, _, _, _, _, _, _, _, _, _, _, _, c2, u2, -, -, -, -, -, -, -, -, -, -, h⟩ | ⟨s', k, -, h⟩ | ⟨s', -, h⟩
    · cases h
      exact ⟨Nat.le_refl _, Nat.le_refl _⟩
    · exact pi_mono n d mi s' cu su r w' c' u' h
    · have h2 := pi_mono n d mi _ _ _ r w' c' u' h
      omega
    · have h2 := pi_mono n d mi s' _ _ r w' c' u' h
      omega
    · exact pi_mono n d mi s' cu su r w' c' u' h
theorem pi_more_1 {n d : Nat} {mi : pi_M} {s : pi_S} {cu su : Nat} {res : pi_R} (ih : ∀ (d : Nat) (mi : pi_M) (s : pi_S) (cu su : Nat) (res : pi_R), pi_run n d mi s cu su = some res → pi_run (n + 1) d mi s cu su = some res) (h : pi_run (n + 1) d mi s cu su = some res) : pi_run (n + 2) d mi s cu su = some res := by
  rw [pi_run] at h
  split at h
  · cases h
  · rename_i i len hf
    split at h
    · rename_i hE
      rw [pi_run, hf]
      dsimp only
      rw [if_pos hE]
      exact h
    · rename_i hE
      split at h
      · rename_i cp kinds hi
        split at h
        · cases h
        · rename_i kind z na q hl
          split at h
          · cases h
          · rename_i hk
            split at h
            · rename_i h3
              split at h
              · cases h
              · rename_i h5
                split at h
                · cases h
                · rename_i s' hs
                  rw [pi_run, hf]
                  dsimp only
                  rw [if_neg hE, hi]
                  dsimp only
                  rw [hl]
                  dsimp only
                  rw [if_neg hk, if_pos h3, if_neg h5, hs]
                  exact ih _ _ _ _ _ _ h
            · rename_i h3
              split at h
              · rename_i d' y cc mz hz
                split at h
                · cases h
                · rename_i As rest ha
                  split at h
                  · cases h
                  · rename_i r w' c' u' hr
                    split at h
                    · rename_i hkp
                      rw [pi_run, hf]
                      dsimp only
                      rw [if_neg hE, hi]
                      dsimp only
                      rw [hl]
                      dsimp only
                      rw [if_neg hk, if_neg h3, hz]
                      dsimp only
                      rw [ha]
                      dsimp only
                      rw [ih _ _ _ _ _ _ hr]
                      dsimp only
                      rw [if_pos hkp]
                      exact ih _ _ _ _ _ _ h
                    · cases h
              · cases h
      · rename_i hi
        split at h
        · rename_i hN
          split at h
          · cases h
          · rename_i s' k hs
            rw [pi_run, hf]
            dsimp only
            rw [if_neg hE, hi]
            dsimp only
            rw [if_pos hN, hs]
            exact ih _ _ _ _ _ _ h
        · rename_i hN
          split at h
          · cases h
          · rename_i s' hs
            rw [pi_run, hf]
            dsimp only
            rw [if_neg hE, hi]
            dsimp only
            rw [if_neg hN, hs]
            exact ih _ _ _ _ _ _ h
theorem pi_more_s : ∀ (n d : Nat) (mi : pi_M) (s : pi_S) (cu su : Nat) (res : pi_R), pi_run n d mi s cu su = some res → pi_run (n + 1) d mi s cu su = some res
  | 0, _, _, _, _, _, _, h => by cases h
  | n + 1, _, _, _, _, _, _, h => pi_more_1 (pi_more_s n) h
theorem pi_more {n k d : Nat} {mi : pi_M} {s : pi_S} {cu su : Nat} {res : pi_R} (h : pi_run n d mi s cu su = some res) (hk : n ≤ k) : pi_run k d mi s cu su = some res := by
  obtain ⟨j, rfl⟩ := Nat.le.dest hk
  clear hk
  induction j with
  | zero => exact h
  | succ j ih => exact pi_more_s _ _ _ _ _ _ _ ih
end
section
/-! ===== calls ===== -/
theorem wd_objC : Cond.code objectInit ⟨#[0xb1]⟩ 1 none ∈ lw_tbl := List.mem_of_getElem? (i := 111) (by decide +kernel)
theorem wd_objI : Cond.instanceMethod objectInit ∈ lw_tbl := List.mem_of_getElem? (i := 110) (by decide +kernel)
theorem wd_mathI : Cond.initialized "java/lang/Math" ∈ lw_tbl := List.mem_of_getElem? (i := 97) (by decide +kernel)
theorem wd_minS : Cond.static Lib.Math.min.name ∈ lw_tbl := List.mem_of_getElem? (i := 496) (by decide +kernel)
theorem wd_minC : Cond.code Lib.Math.min.name Lib.Math.min.code 2 (some .int) ∈ lw_tbl := List.mem_of_getElem? (i := 497) (by decide +kernel)
theorem wd_maxS : Cond.static Lib.Math.max.name ∈ lw_tbl := List.mem_of_getElem? (i := 654) (by decide +kernel)
theorem wd_maxC : Cond.code Lib.Math.max.name Lib.Math.max.code 2 (some .int) ∈ lw_tbl := List.mem_of_getElem? (i := 655) (by decide +kernel)
theorem wd_sysI : Cond.initialized "java/lang/System" ∈ lw_tbl := List.mem_of_getElem? (i := 98) (by decide +kernel)
theorem wd_cpS : Cond.static arraycopyName ∈ lw_tbl := List.mem_of_getElem? (i := 634) (by decide +kernel)
theorem wd_cpN : Cond.native arraycopyName ∈ lw_tbl := List.mem_of_getElem? (i := 635) (by decide +kernel)
theorem pi_cats_rv (ad : Nat → Nat) (st : List Value) : ((st.map (pi_rv ad)).map fun v => v.category).sum = pi_cats st := by
  unfold pi_cats
  rw [List.map_map]
  congr 1
  exact List.map_congr_left fun v _ => pi_rv_cat ad v
theorem pi_lv_args (ad : Nat → Nat) : ∀ (vs : List Value) (i : Nat), lv_args i (vs.map (pi_rv ad)) = pi_rL ad (lv_args i vs)
  | [], _ => rfl
  | v :: vs, i => by
    show (i, pi_rv ad v) :: lv_args (if (pi_rv ad v).category = 2 then i + 2 else i + 1) (vs.map (pi_rv ad)) = (i, pi_rv ad v) :: pi_rL ad (lv_args (if v.category = 2 then i + 2 else i + 1) vs)
    rw [pi_rv_cat, pi_lv_args ad vs]
theorem pi_lg_sl (ad : Nat → Nat) : ∀ vs : List Value, (lg_sl (vs.map (pi_rv ad))).length = (lg_sl vs).length
  | [] => rfl
  | v :: vs => by
    have ih := pi_lg_sl ad vs
    unfold lg_sl at ih ⊢
    rw [List.map_cons, List.flatMap_cons, List.flatMap_cons, List.length_append, List.length_append, ih, pi_rv_cat]
    congr 1
    split <;> rfl
theorem pi_nest_form : ∀ w ∈ pi_nest, ∃ a i x h, w = .methodLinkNest a i x h := by
  intro w hw
  simp only [pi_nest, List.mem_cons, List.not_mem_nil, or_false] at hw
  rcases hw with rfl | rfl | rfl | rfl | rfl | rfl | rfl | rfl | rfl | rfl | rfl | rfl | rfl | rfl <;> exact ⟨_, _, _, _, rfl⟩
theorem pi_K.call {D : va_G} {cA : Nat → ClassId} {sa sv : Nat} {A A' : Nat → Prop} {s U : State} {H : Heap} {locs : List Loc} (h : pi_K D cA sa sv A s) (hW : s.WarmedH U.vm) (hS : va_S A s.heap H locs) (hU : U.heap = H) (hA : ∀ q, A' q → A q) : pi_K D cA sa sv A' U := by
  obtain ⟨h1, h2, h3, h4, h5, h6⟩ := h
  refine ⟨va_K.moved hW.alike h1, fun w hw => ?_, vk_R.warm hW h3, ?_, ?_, ?_⟩
  · obtain ⟨a, i, x, hh, rfl⟩ := pi_nest_form w hw
    exact va_Nw.warmM hW (h2 _ hw)
  · rw [hU]; exact vk_S.moved hW.alike ((h4.kept hS.2.1).narrow hA)
  · rw [hU]; exact va_Z.moved hW.alike ((h5.kept hS.2.1).narrow hA)
  · rw [hU]; exact va_Zq.moved hW.alike ((h6.kept hS.2.1).narrow hA)
theorem pi_K.same {D : va_G} {cA : Nat → ClassId} {sa sv : Nat} {A : Nat → Prop} {u U : State} (h : pi_K D cA sa sv A u) (hv : u.vm = U.vm) (hh : U.heap = u.heap) : pi_K D cA sa sv A U := by
  obtain ⟨h1, h2, h3, h4, h5, h6⟩ := h
  have ha : u.vm.Alike U.vm := by rw [hv]; exact Vm.Alike.refl U.vm
  refine ⟨va_K.moved ha h1, fun w hw => ?_, vk_R.same hv.symm h3, ?_, ?_, ?_⟩
  · obtain ⟨a, i, x, hh, rfl⟩ := pi_nest_form w hw
    exact va_Nw.same rfl hv (h2 _ hw)
  · rw [hh]; exact vk_S.moved ha h4
  · rw [hh]; exact va_Z.moved ha h5
  · rw [hh]; exact va_Zq.moved ha h6
def pi_Pc (D : va_G) (cA : Nat → ClassId) (sa sv : Nat) (ad : Nat → Nat) (w : pi_W) (sz : Nat) (As : List Value) : Array Value → State → Prop := va_Pc (As.map (pi_rv ad)) (fun U => U.heap.size = sz ∧ va_P D vwCl (pi_rW cA ad w) U.heap ∧ va_D (va_A (pi_rW cA ad w) sz) (pi_rW cA ad w) ∧ pi_K D cA sa sv (va_A (pi_rW cA ad w) sz) U)
def pi_Qc (D : va_G) (cA : Nat → ClassId) (ad : Nat → Nat) (w : pi_W) (sz : Nat) (r : Option Value) (w' : pi_W) : Array Value → State → Outcome → State → Prop := fun _ st o t => (∃ ad', o = .returned (r.map (pi_rv ad')) ∧ pi_ext ad ad' w w' ∧ va_P D vwCl (pi_rW cA ad' w') t.heap ∧ va_D (va_A (pi_rW cA ad w) sz) (pi_rW cA ad' w')) ∧ va_F (va_A (pi_rW cA ad w) sz) st t
theorem pi_Pc.blind {D : va_G} {cA : Nat → ClassId} {sa sv : Nat} {ad : Nat → Nat} {w : pi_W} {sz : Nat} {As : List Value} : FrameBlind (pi_Pc D cA sa sv ad w sz As) := by
  intro a U g mk h
  obtain ⟨h1, h2, h3, h4, h5⟩ := h
  exact ⟨h1, h2, h3, h4, h5.same rfl rfl⟩
def pi_rm (d c u : Nat) : Room := { frames := d + 1, cells := c, slots := u, locals := 60 * (d + 1) }
def pi_Sim (n : Nat) : Prop := ∀ (d : Nat) (y : MethodName) (cc : ByteArray) (mi : pi_M) (na : Nat) (st : Bool), pi_okM (y, cc, mi) na st → ∀ (σ : pi_S) (cu su : Nat) (r : Option Value) (w' : pi_W) (c' u' : Nat), pi_run n d mi σ cu su = some (r, w', c', u') →
  ∀ (p : Program) (l : Launch) (e : Env) (R : Room) (s : State) (m : MethodId) (args : Array Value) (below : List Frame) (meth : Method) (c : Code) (D : va_G) (cA : Nat → ClassId) (sa sv : Nat) (A : Nat → Prop) (Qc : Array Value → State → Outcome → State → Prop) (free : Addr → Prop) (ad : Nat → Nat), pi_Cx p s m args meth c y cc mi D cA sa sv A → d + 1 ≤ R.frames → 60 * (d + 1) ≤ R.locals → c' ≤ R.cells → u' ≤ R.slots → ad pi_str = sa →
    (∀ (ad' : Nat → Nat) (t : State) (locs : List Loc), pi_ext ad ad' σ.2.2.2 w' → va_P D vwCl (pi_rW cA ad' w') t.heap → va_D A (pi_rW cA ad' w') → va_S A s.heap t.heap locs → s.WarmedH t.vm → Qc args s (.returned (r.map (pi_rv ad'))) t) → (∀ q, A q → free q) →
    pi_Wat p l e R s m args below meth c (MQ below Qc args s c' u' free) D cA A mi.2.1 ad σ cu su
theorem pi_ws_good {y : MethodName} {cc : ByteArray} {nL : Nat} {ret : Option FieldType} (h : Cond.code y cc nL ret ∈ lw_tbl) : GoodIn pi_good (Cond.code y cc nL ret :: pi_good) := by
  intro w hw
  rcases List.mem_cons.mp hw with rfl | hw
  · exact ⟨pi_good_of h rfl, good_of_word rfl⟩
  · exact pi_good_all w hw
/-- a method's contract, out of what pi_run answers -/
theorem pi_met {n : Nat} (hS : pi_Sim n) {d : Nat} {y : MethodName} {cc : ByteArray} {mi : pi_M} {na : Nat} {st : Bool} (ho : pi_okM (y, cc, mi) na st) {As : List Value} {w : pi_W} {r : Option Value} {w' : pi_W} {c' u' : Nat} (h : pi_run n d mi (0, lv_args 0 As, [], w) 0 0 = some (r, w', c', u')) (hlen : (lg_sl As).length ≤ mi.2.1)
    (l : Launch) (D : va_G) (cA : Nat → ClassId) (sa sv : Nat) (ad : Nat → Nat) (sz : Nat) (hsa : ad pi_str = sa) :
    Met l y (Cond.code y cc mi.2.1 mi.2.2.1 :: pi_good) (pi_rm d c' u') (pi_Pc D cA sa sv ad w sz As) (pi_Qc D cA ad w sz r w') c' u' (va_A (pi_rW cA ad w) sz) := by
  obtain ⟨own, nL, ret, ini, tab⟩ := mi
  have ho' := ho
  obtain ⟨o1, o2, o3, o4, -, -, -, -, -, -, o11, -⟩ := ho
  refine Met.ofW (cc := cc) (maxL := nL) (ret := ret) o1 rfl ?_
  intro p e s m args below meth c s₁ B hml hv
  obtain ⟨rfl, hsz, hP, hD, hK⟩ := hv
  have hts := atoms_spec (ws := Cond.code y cc nL ret :: pi_good) B.pre
  have hl := lv_entry (As.map (pi_rv ad)) (n := nL) (by rw [pi_lg_sl]; exact hlen)
  rw [lg_entry_eq]
  generalize (lg_sl (As.map (pi_rv ad)) ++ List.replicate (nL - (lg_sl (As.map (pi_rv ad))).length) Slot.unset).toArray = ls at hl ⊢
  rw [pi_lv_args] at hl
  have hC : pi_Cx p s m (As.map (pi_rv ad)).toArray meth c y cc (own, nL, ret, ini, tab) D cA sa sv (va_A (pi_rW cA ad w) sz) :=
    ⟨B.exec, B.bytes, findClass_of_methodNamed B.named, fun w hw => hts w (List.mem_cons_of_mem _ hw), hK, hml, B.returns, B.notSynchronized, (name_of_methodNamed B.named B.method).1, o11, o2, fun q hq => Or.inr (by rw [← hsz]; exact hq)⟩
  exact hS d y cc (own, nL, ret, ini, tab) na st ho' _ 0 0 r w' c' u' h p l e (pi_rm d c' u') s m _ below meth c D cA sa sv _ (pi_Qc D cA ad w sz r w') (va_A (pi_rW cA ad w) sz) ad hC (Nat.le_refl _) (Nat.le_refl _) (Nat.le_refl _) (Nat.le_refl _) hsa (fun ad' t locs h1 h2 h3 h4 h5 => ⟨⟨ad', rfl, h1, h2, h3⟩, h4.1, h4.2.1⟩) (fun q h => h) s.heap [] ls hP hD va_S.rf hl
section PIC
variable {p : Program} {l : Launch} {e : Env} {R : Room} {s : State} {m : MethodId} {args : Array Value} {below : List Frame} {meth : Method} {c : Code} {Q : State → Prop} {D : va_G} {cA : Nat → ClassId} {sa sv : Nat} {A : Nat → Prop} {y : MethodName} {cc : ByteArray} {mi : pi_M} {ad : Nat → Nat} {cu su : Nat}
theorem pi_behind (C : pi_Cx p s m args meth c y cc mi D cA sa sv A) {H : Heap} {locs : List Loc} {ls : Array Slot} {pc : Nat} {lv : pi_L} {st0 rest : List Value} {w w' : pi_W} {r : Option Value} {c' u' : Nat} {aa : Array Value} (hP : va_P D vwCl (pi_rW cA ad w) H) (hD : va_D A (pi_rW cA ad w)) (hS : va_S A s.heap H locs) (hl : lv_has ls mi.2.1 (pi_rL ad lv)) (hk : pi_keep lv rest w w' = true)
    (hr : va_Run p l e R s m args below meth c H locs cu su c' u' (F0 m pc ls st0) (rest.map (pi_rv ad)) (pi_Qc D cA ad w H.size r w' aa) (va_A (pi_rW cA ad w) H.size))
    (k : ∀ ad' : Nat → Nat, pi_ext ad ad' w w' → pi_Wat p l e R s m args below meth c Q D cA A mi.2.1 ad' (pc + 3, lv, r.toList ++ rest, w') (cu + c') (su + u')) : W p l e R s m args below meth c H locs cu su Q (F0 m pc ls st0) := by
  intro T hT X
  obtain ⟨v, st₀, t, T', L, h0, X', hL, e1, e2, ⟨⟨ad', hv, hx, hP', hD'⟩, hz, hkk⟩, stp⟩ := hr T hT X
  have hv : v = r.map (pi_rv ad') := Outcome.returned.inj hv
  subst hv
  rw [h0] at hz hkk
  have hA : ∀ q, va_A (pi_rW cA ad w) H.size q → A q := by
    rintro q (⟨k, e, h⟩ | h)
    · exact hD.2 k _ h
    · exact C.2.2.2.2.2.2.2.2.2.2.2 q (Nat.le_trans hS.1 h)
  have hD2 : va_D A (pi_rW cA ad' w') := hD'.weaken (fun k q _ h => hA _ h)
  have hS2 : va_S A s.heap t.heap (locs ++ L) := ⟨Nat.le_trans hS.1 hz, fun q h1 h2 => by rw [hkk q (Nat.lt_of_lt_of_le h1 hS.1) (fun z => h2 (hA q z))]; exact hS.2.1 q h1 h2, fun q hq => by
    rcases List.mem_append.mp hq with h | h
    · exact hS.2.2 q h
    · exact hA _ (hL q h)⟩
  have e3 : pi_rL ad' lv = pi_rL ad lv ∧ rest.map (pi_rv ad') = rest.map (pi_rv ad) := by
    unfold pi_keep at hk
    rw [Bool.or_eq_true, beq_iff_eq, Bool.and_eq_true] at hk
    rcases hk with hk | hk
    · rw [hx.2.2 hk]; exact ⟨rfl, rfl⟩
    · exact ⟨pi_rL_wf hk.1 hx.2.1, pi_rs_wf hk.2 hx.2.1⟩
  have k2 := k ad' hx t.heap (locs ++ L) ls hP' hD2 hS2 (by show lv_has ls mi.2.1 (pi_rL ad' lv); rw [e3.1]; exact hl)
  have e4 : (r.toList ++ rest).map (pi_rv ad') = (r.map (pi_rv ad')).toList ++ rest.map (pi_rv ad) := by
    rw [List.map_append, e3.2]
    cases r <;> rfl
  dsimp only at k2
  rw [e4] at k2
  obtain ⟨t2, a1, b1⟩ := k2 T' e1 X'
  exact ⟨t2, stp t2 a1, b1⟩
theorem pi_args_of {kind na : Nat} {mz : pi_M} {σ : pi_S} {As rest : List Value} (h : pi_args kind na mz σ = some (As, rest)) : As.length = (if kind < 2 then na else na + 1) ∧ σ.2.2.1 = As.reverse ++ rest ∧ pi_cats rest ≤ 8 ∧ pi_recv kind mz.1 As σ.2.2.2 = true ∧ (lg_sl As).length ≤ mz.2.1 ∧ mz.2.2.2.1 = (kind == 3) ∧ (kind ≠ 3 ∨ mz.2.2.1 = none) ∧ mz.2.1 ≤ 40 := by
  unfold pi_args at h
  dsimp only at h
  generalize (if kind < 2 then na else na + 1) = na' at h ⊢
  split at h
  · rename_i hc
    cases h
    refine ⟨hc.1, ?_, hc.2.1, hc.2.2.1, hc.2.2.2.1, hc.2.2.2.2.1, hc.2.2.2.2.2.1, hc.2.2.2.2.2.2⟩
    rw [List.reverse_reverse, List.take_append_drop]
  · cases h
theorem pi_pre {H : Heap} {locs : List Loc} {w : pi_W} {As : List Value} (C : pi_Cx p s m args meth c y cc mi D cA sa sv A) (hP : va_P D vwCl (pi_rW cA ad w) H) (hD : va_D A (pi_rW cA ad w)) (hS : va_S A s.heap H locs) : ∀ U : State, U.heap = H → s.WarmedH U.vm → pi_Pc D cA sa sv ad w H.size As (As.map (pi_rv ad)).toArray U := by
  intro U hU hW
  refine ⟨rfl, by rw [hU], by rw [hU]; exact hP, ⟨hD.1, fun k q h => Or.inl ⟨k, q.2, h⟩⟩, C.2.2.2.2.1.call hW hS hU ?_⟩
  rintro q (⟨k, e, h⟩ | h)
  · exact hD.2 k _ h
  · exact C.2.2.2.2.2.2.2.2.2.2.2 q (Nat.le_trans hS.1 h)
theorem ps_call {n : Nat} (hSim : pi_Sim n) (C : pi_Cx p s m args meth c y cc mi D cA sa sv A) (hsa : ad pi_str = sa) {i : Instr} {cp kind z na q d' : Nat} {kinds : List Nat} {yz : MethodName} {ccz : ByteArray} {mz : pi_M} {As rest : List Value} {r : Option Value} {w' : pi_W} {c' u' : Nat} {σ : pi_S} (hi : pi_inv i = some (cp, kinds)) (hlk : pi_look pi_iT mi.1 cp = some (kind, z, na, q)) (hkc : kinds.contains kind = true) (hk3 : kind ≤ 3) (hz : pi_mt[z]? = some (yz, ccz, mz)) (ha : pi_args kind na mz σ = some (As, rest)) (hrun : pi_run n d' mz (0, lv_args 0 As, [], σ.2.2.2) 0 0 = some (r, w', c', u')) (hkp : pi_keep σ.2.1 rest σ.2.2.2 w' = true) (hd : decode cc σ.1 = .ok (i, 3))
    (hfr : d' + 2 ≤ R.frames) (hlo : 60 * (d' + 2) ≤ R.locals) (hcells : cu + c' ≤ R.cells) (hslots : su + u' ≤ R.slots)
    (k : ∀ ad' : Nat → Nat, pi_ext ad ad' σ.2.2.2 w' → pi_Wat p l e R s m args below meth c Q D cA A mi.2.1 ad' (σ.1 + 3, σ.2.1, r.toList ++ rest, w') (cu + c') (su + u')) : pi_Wat p l e R s m args below meth c Q D cA A mi.2.1 ad σ cu su := by
  obtain ⟨pc, lv, st, w⟩ := σ
  dsimp only at *
  intro H locs ls hP hD hS hl
  dsimp only at *
  obtain ⟨g1, g2, g3, g4, g5, g6, g7, hmz⟩ := pi_args_of ha
  dsimp only at g2
  subst g2
  obtain ⟨t, ht, hm⟩ := pi_look_mem hlk
  have hoI := li_all C.2.2.2.2.2.2.2.2.2.2.1 ht _ hm
  dsimp only at hoI
  have hyn : pi_yn[z]? = some yz := by rw [← pi_yn_eq, List.getElem?_map, hz]; rfl
  have hfix : CallFix p m c cc mi.2.1 s args pi_good y.cls := ⟨C.1, C.2.1, C.2.2.2.2.2.1, C.2.2.1, C.2.2.2.1⟩
  have hroom : (pi_rm d' c' u').frames + 1 ≤ R.frames ∧ 8 + (mz.2.1 + 11) + (pi_rm d' c' u').locals ≤ R.locals := by
    show d' + 1 + 1 ≤ R.frames ∧ 8 + (mz.2.1 + 11) + 60 * (d' + 1) ≤ R.locals
    constructor <;> omega
  have hcats : 2 * (F0 m pc ls ((As.reverse ++ rest).map (pi_rv ad))).monitorRoom + (((rest.map (pi_rv ad))).map fun v => v.category).sum ≤ 8 := lv_room (by rw [pi_cats_rv]; exact g3)
  refine pi_behind C (aa := (As.map (pi_rv ad)).toArray) hP hD hS hl hkp ?_ k
  match kind, hk3, hoI, hkc, g1, g4, g6, g7 with
  | 0, _, ⟨y0, i1, i2, i3⟩, hkc, g1, _, _, _ =>
    cases hyn.symm.trans i1
    have ho := mo_of hz i2
    have hM := pi_met hSim ho hrun g5 l D cA sa sv ad H.size hsa
    obtain ⟨own, nL, ret, ini, tab⟩ := mz
    obtain ⟨o1, o2, o3, o4, o5, -, -, o8, o9, o10, -, -⟩ := ho
    have hst : i = .invokestatic cp := by cases i <;> first | (cases hi; first | rfl | (exact absurd hkc (by decide))) | (exact absurd hi (by simp [pi_inv]))
    subst hst
    have hCB := callB_of (R := R) (index := cp) (own := y.cls) na C.2.2.2.1 (pi_ws_good o3) rfl rfl rfl (C.2.2.2.1 _ (pi_good_of o4 rfl)) (C.2.2.2.1 _ (pi_good_of i3 rfl)) ⟨o8, o9, o10⟩ hroom
    exact va_runS hfix hM ⟨hCB, C.2.2.2.1 _ (pi_good_of (o5 rfl) rfl)⟩ ⟨pi_Pc.blind, pi_pre C hP hD hS⟩ rfl (by rw [List.length_map]; exact g1) hl.1 (by show List.map _ _ = _; rw [List.map_append, List.map_reverse]) hcats hd ⟨hcells, hslots⟩
  | 1, _, ⟨y0, i1, i2, i3⟩, hkc, g1, _, _, _ =>
    cases hyn.symm.trans i1
    have ho := mo_of hz i2
    have hM := pi_met hSim ho hrun g5 l D cA sa sv ad H.size hsa
    obtain ⟨own, nL, ret, ini, tab⟩ := mz
    obtain ⟨o1, o2, o3, o4, o5, -, -, o8, o9, o10, -, -⟩ := ho
    have hst : i = .invokestatic cp := by cases i <;> first | (cases hi; first | rfl | (exact absurd hkc (by decide))) | (exact absurd hi (by simp [pi_inv]))
    subst hst
    have hCB := va_cnB (R := R) (index := cp) (own := y.cls) na C.2.2.2.1 (pi_ws_good o3) rfl rfl rfl (C.2.2.2.2.1.2.1 _ i3) (C.2.2.2.1 _ (pi_good_of o4 rfl)) ⟨o8, o9, o10⟩ hroom
    exact va_runSN hfix hM ⟨hCB, C.2.2.2.1 _ (pi_good_of (o5 rfl) rfl), trivial⟩ ⟨pi_Pc.blind, pi_pre C hP hD hS⟩ rfl (by rw [List.length_map]; exact g1) hl.1 (by show List.map _ _ = _; rw [List.map_append, List.map_reverse]) hcats hd ⟨hcells, hslots⟩
  | 2, _, ⟨y0, i1, i2, i3⟩, hkc, g1, g4, g6, g7 =>
    cases hyn.symm.trans i1
    have ho := mo_of hz i2
    have hM := pi_met hSim ho hrun g5 l D cA sa sv ad H.size hsa
    obtain ⟨own, nL, ret, ini, tab⟩ := mz
    obtain ⟨o1, o2, o3, o4, -, o6, o7, o8, o9, o10, -, -⟩ := ho
    have hst : i = .invokevirtual cp := by cases i <;> first | (cases hi; first | rfl | (exact absurd hkc (by decide))) | (exact absurd hi (by simp [pi_inv]))
    subst hst
    match As, g4, g1, hM with
    | .ref a :: As, g4, g1, hM =>
      have hw : ∃ fs, w[a]? = some (.inr (own, fs)) := by
        simp only [pi_recv] at g4
        split at g4
        · rename_i c0 fs hw
          have : c0 = own := by simpa using g4
          rw [this] at hw
          exact ⟨fs, hw⟩
        · cases g4
      obtain ⟨fs, hw⟩ := hw
      have he : (pi_rW cA ad w)[a]? = some (ad a, .inr (own, fs.map (pi_rv ad))) := by rw [pi_rW_get, hw]; rfl
      obtain ⟨q9, hq9, -⟩ := hP a _ he
      dsimp only at hq9
      have hCn : q9.1 = yz.cls := by
        have h5 := (lc_all (C := q9.1) (T := q9.2.1) (N := q9.2.2) hq9).1
        rw [o2] at h5
        exact (Option.some.inj h5).symm
      have hrc := va_recv C.2.2.2.2.1.1 hP hq9 he
      rw [hCn] at hrc
      have hCB := callB_of (R := R) (index := cp) (own := y.cls) na C.2.2.2.1 (pi_ws_good o3) rfl rfl rfl (C.2.2.2.1 _ (pi_good_of o4 rfl)) (C.2.2.2.1 _ (pi_good_of i3 rfl)) ⟨o8, o9, o10⟩ hroom
      have hpp := pi_pre (As := .ref a :: As) C hP hD hS
      exact va_runV (C := yz.cls) (b := ad a) (As := As.map (pi_rv ad)) hfix hM ⟨hCB, C.2.2.2.1 _ (pi_good_of (o6 rfl) rfl), C.2.2.2.1 _ (pi_good_of (o7 rfl g6) rfl)⟩ ⟨pi_Pc.blind, hrc, hpp⟩ rfl (by rw [List.length_map]; simpa using g1) hl.1 (by show List.map _ _ = _; simp [pi_rv]) hcats hd ⟨hcells, hslots⟩
  | 3, _, ⟨y0, i1, i2, i3⟩, hkc, g1, g4, g6, g7 =>
    cases hyn.symm.trans i1
    have ho := mo_of hz i2
    have hM := pi_met hSim ho hrun g5 l D cA sa sv ad H.size hsa
    obtain ⟨own, nL, ret, ini, tab⟩ := mz
    obtain ⟨o1, o2, o3, o4, -, o6, o7, o8, o9, o10, o11, -⟩ := ho
    have hst : i = .invokespecial cp := by cases i <;> first | (cases hi; first | rfl | (exact absurd hkc (by decide))) | (exact absurd hi (by simp [pi_inv]))
    subst hst
    match As, g4, g1, hM with
    | .ref a :: As, g4, g1, hM =>
      have hret : ret = none := by
        rcases g7 with h | h
        · exact absurd rfl h
        · exact h
      subst hret
      have hCB := callB_of (R := R) (index := cp) (own := y.cls) na C.2.2.2.1 (pi_ws_good o3) rfl rfl rfl (C.2.2.2.1 _ (pi_good_of o4 rfl)) (C.2.2.2.1 _ (pi_good_of i3 rfl)) ⟨o8, o9, o10⟩ hroom
      have hpp := pi_pre (As := .ref a :: As) C hP hD hS
      exact va_runI (b := ad a) (As := As.map (pi_rv ad)) hfix hM ⟨hCB, o11 g6, C.2.2.2.1 _ (pi_good_of (o6 rfl) rfl)⟩ ⟨pi_Pc.blind, hpp⟩ rfl (by rw [List.length_map]; simpa using g1) hl.1 (by show List.map _ _ = _; simp [pi_rv]) hcats hd ⟨hcells, hslots⟩
end PIC
end
section
/-! ===== calls that are no rows of the table; the ends; the whole ===== -/
section PIX
variable {p : Program} {l : Launch} {e : Env} {R : Room} {s : State} {m : MethodId} {args : Array Value} {below : List Frame} {meth : Method} {c : Code} {Q : State → Prop} {D : va_G} {cA : Nat → ClassId} {sa sv : Nat} {A : Nat → Prop} {y : MethodName} {cc : ByteArray} {mi : pi_M} {ad : Nat → Nat} {cu su : Nat}
theorem ps_len (C : pi_Cx p s m args meth c y cc mi D cA sa sv A) (hsa : ad pi_str = sa) {pc cp : Nat} {lv : pi_L} {r : List Value} {w : pi_W} (hlk : Cond.methodLink y.cls cp ⟨"java/lang/String", "length", "()I"⟩ ∈ lw_tbl) (hr : pi_cats r ≤ 8) (hfr : 3 ≤ R.frames) (hlo : 180 ≤ R.locals) (hcu : cu ≤ R.cells) (hsu : su ≤ R.slots) (hd : decode cc pc = .ok (.invokevirtual cp, 3)) (k : pi_Wat p l e R s m args below meth c Q D cA A mi.2.1 ad (pc + 3, lv, .int (Int32.ofNat pi_bytes.length) :: r, w) cu su) : pi_Wat p l e R s m args below meth c Q D cA A mi.2.1 ad (pc, lv, .ref pi_str :: r, w) cu su := by
  sorry
theorem ps_chr (C : pi_Cx p s m args meth c y cc mi D cA sa sv A) (hsa : ad pi_str = sa) {pc cp : Nat} {lv : pi_L} {r : List Value} {w : pi_W} {i : Int32} (hi : ¬ (i < 0 ∨ pi_bytes.length ≤ i.toNatClampNeg)) (hlk : Cond.methodLink y.cls cp ⟨"java/lang/String", "charAt", "(I)C"⟩ ∈ lw_tbl) (hr : pi_cats r ≤ 8) (hfr : 5 ≤ R.frames) (hlo : 300 ≤ R.locals) (hcu : cu ≤ R.cells) (hsu : su ≤ R.slots) (hd : decode cc pc = .ok (.invokevirtual cp, 3)) (k : pi_Wat p l e R s m args below meth c Q D cA A mi.2.1 ad (pc + 3, lv, .int (pi_bytes.getD i.toNatClampNeg 0) :: r, w) cu su) : pi_Wat p l e R s m args below meth c Q D cA A mi.2.1 ad (pc, lv, .int i :: .ref pi_str :: r, w) cu su := by
  sorry
theorem ps_spec (C : pi_Cx p s m args meth c y cc mi D cA sa sv A) (hsa : ad pi_str = sa) {i : Instr} {cp kind z na q : Nat} {kinds : List Nat} {σ σ' : pi_S} (hi : pi_inv i = some (cp, kinds)) (hlk : pi_look pi_iT mi.1 cp = some (kind, z, na, q)) (hkc0 : kinds.contains kind = true) (h0 : pi_spec kind σ = some σ') (hd : decode cc σ.1 = .ok (i, 3)) (hfr : 1 ≤ R.frames) (hlo : 60 ≤ R.locals) (hst0 : kind = 6 ∨ kind = 7 → 5 ≤ R.frames ∧ 300 ≤ R.locals) (hcu : cu ≤ R.cells) (hsu : su ≤ R.slots) :
    σ'.2.2.2.length = σ.2.2.2.length ∧ (pi_Wat p l e R s m args below meth c Q D cA A mi.2.1 ad σ' cu su → pi_Wat p l e R s m args below meth c Q D cA A mi.2.1 ad σ cu su) := by
  obtain ⟨pc, lv, st, w⟩ := σ
  dsimp only at hd
  obtain ⟨t, ht, hm⟩ := pi_look_mem hlk
  have hoI0 := li_all C.2.2.2.2.2.2.2.2.2.2.1 ht _ hm
  dsimp only at hoI0
  have tb := C.2.2.2.1
  match kind, hoI0, hkc0, hst0, h0 with
  | 4, hoI, hkc, _, h =>
    have hsp : i = .invokespecial cp := by cases i <;> first | (cases hi; first | rfl | (exact absurd hkc (by decide))) | (exact absurd hi (by simp [pi_inv]))
    subst hsp
    simp only [pi_spec] at h
    split at h
    · rename_i a r
      split at h
      · rename_i hr
        cases h
        refine ⟨rfl, fun k H locs ls hP hD hS hl => ?_⟩
        have h2 : 2 * (F0 m pc ls (List.map (pi_rv ad) (Value.ref a :: r))).monitorRoom + ((r.map (pi_rv ad)).map fun v => v.category).sum ≤ 8 := lv_room (by rw [pi_cats_rv]; exact hr)
        exact W.objInit (g := F0 m pc ls (List.map (pi_rv ad) (Value.ref a :: r))) (rest := r.map (pi_rv ad)) C.1 C.2.1 C.2.2.1 (tb _ (pi_good_of hoI rfl)) (tb _ (pi_good_of wd_objI rfl)) (tb _ (pi_good_of wd_objC rfl)) rfl (hl.1.trans C.2.2.2.2.2.1.symm) rfl hd hfr (by omega) (k H locs ls hP hD hS hl)
      · cases h
    · cases h
  | 5, hoI, hkc, _, h =>
    have hsp : i = .invokestatic cp := by cases i <;> first | (cases hi; first | rfl | (exact absurd hkc (by decide))) | (exact absurd hi (by simp [pi_inv]))
    subst hsp
    simp only [pi_spec] at h
    split at h
    · split at h
      · rename_i hr
        split at h
        · rename_i hw0 hw1
          split at h
          · rename_i hb
            cases h
            refine ⟨List.length_set, fun k H locs ls hP hD hS hl => ?_⟩
            exact va_copyi C.1 C.2.1 (C.2.2.2.2.2.1.trans hl.1.symm) C.2.2.1 (tb _ (pi_good_of hoI rfl)) (tb _ (pi_good_of wd_cpN rfl)) (tb _ (pi_good_of wd_cpS rfl)) (tb _ (pi_good_of wd_sysI rfl)) C.2.2.2.2.1.1 hP hD hS _ _ 0 0 (by rw [pi_rW_get, hw0]; rfl) (by rw [pi_rW_get, hw1]; rfl) rfl rfl rfl hr.2.1 hr.2.2.1 hr.2.2.2 hb.1 hb.2 (fun _ _ => rfl) hfr (by rw [pi_cats_rv]; have := hr.1; show _ + (7 + 11) ≤ _; omega) hd (fun H1 locs1 p1 d1 s1 => k H1 locs1 ls (by show va_P _ _ (pi_rW _ _ _) _; rw [pi_rW_set]; exact p1) (by show va_D _ (pi_rW _ _ _); rw [pi_rW_set]; exact d1) s1 hl)
          · cases h
        · rename_i hw0 hw1
          split at h
          · rename_i hb
            cases h
            refine ⟨List.length_set, fun k H locs ls hP hD hS hl => ?_⟩
            exact va_copyl C.1 C.2.1 (C.2.2.2.2.2.1.trans hl.1.symm) C.2.2.1 (tb _ (pi_good_of hoI rfl)) (tb _ (pi_good_of wd_cpN rfl)) (tb _ (pi_good_of wd_cpS rfl)) (tb _ (pi_good_of wd_sysI rfl)) C.2.2.2.2.1.1 hP hD hS _ _ 2 2 (by rw [pi_rW_get, hw0]; rfl) (by rw [pi_rW_get, hw1]; rfl) rfl rfl rfl hr.2.1 hr.2.2.1 hr.2.2.2 hb.1 hb.2 (fun _ _ => rfl) hfr (by rw [pi_cats_rv]; have := hr.1; show _ + (7 + 11) ≤ _; omega) hd (fun H1 locs1 p1 d1 s1 => k H1 locs1 ls (by show va_P _ _ (pi_rW _ _ _) _; rw [pi_rW_set]; exact p1) (by show va_D _ (pi_rW _ _ _); rw [pi_rW_set]; exact d1) s1 hl)
          · cases h
        · cases h
      · cases h
    · cases h
  | 6, hoI, hkc, hst, h =>
    have hsp : i = .invokevirtual cp := by cases i <;> first | (cases hi; first | rfl | (exact absurd hkc (by decide))) | (exact absurd hi (by simp [pi_inv]))
    subst hsp
    simp only [pi_spec] at h
    split at h
    · split at h
      · rename_i hr
        obtain ⟨rfl, hr⟩ := hr
        cases h
        have h5 := hst (Or.inl rfl)
        exact ⟨rfl, ps_len C hsa hoI hr (by omega) (by omega) hcu hsu hd⟩
      · cases h
    · cases h
  | 7, hoI, hkc, hst, h =>
    have hsp : i = .invokevirtual cp := by cases i <;> first | (cases hi; first | rfl | (exact absurd hkc (by decide))) | (exact absurd hi (by simp [pi_inv]))
    subst hsp
    simp only [pi_spec] at h
    split at h
    · split at h
      · rename_i hr
        obtain ⟨rfl, hr, hx⟩ := hr
        cases h
        have h5 := hst (Or.inr rfl)
        exact ⟨rfl, ps_chr C hsa hx hoI hr h5.1 h5.2 hcu hsu hd⟩
      · cases h
    · cases h
  | 8, hoI, hkc, _, h =>
    have hsp : i = .invokestatic cp := by cases i <;> first | (cases hi; first | rfl | (exact absurd hkc (by decide))) | (exact absurd hi (by simp [pi_inv]))
    subst hsp
    simp only [pi_spec] at h
    split at h
    · split at h
      · rename_i hr
        cases h
        refine ⟨rfl, fun k H locs ls hP hD hS hl => ?_⟩
        exact va_mmin C.1 C.2.1 (C.2.2.2.2.2.1.trans hl.1.symm) C.2.2.1 (tb _ (pi_good_of hoI rfl)) (tb _ (pi_good_of wd_minS rfl)) (tb _ (pi_good_of wd_mathI rfl)) (tb _ (pi_good_of wd_minC rfl)) hfr (by rw [pi_cats_rv]; omega) hcu hsu hd (k H locs ls hP hD hS hl)
      · cases h
    · cases h
  | 9, hoI, hkc, _, h =>
    have hsp : i = .invokestatic cp := by cases i <;> first | (cases hi; first | rfl | (exact absurd hkc (by decide))) | (exact absurd hi (by simp [pi_inv]))
    subst hsp
    simp only [pi_spec] at h
    split at h
    · split at h
      · rename_i hr
        cases h
        refine ⟨rfl, fun k H locs ls hP hD hS hl => ?_⟩
        exact va_mmax C.1 C.2.1 (C.2.2.2.2.2.1.trans hl.1.symm) C.2.2.1 (tb _ (pi_good_of hoI rfl)) (tb _ (pi_good_of wd_maxS rfl)) (tb _ (pi_good_of wd_mathI rfl)) (tb _ (pi_good_of wd_maxC rfl)) hfr (by rw [pi_cats_rv]; omega) hcu hsu hd (k H locs ls hP hD hS hl)
      · cases h
    · cases h
  | 0, _, _, _, h => exact absurd h (by simp [pi_spec])
  | 1, _, _, _, h => exact absurd h (by simp [pi_spec])
  | 2, _, _, _, h => exact absurd h (by simp [pi_spec])
  | 3, _, _, _, h => exact absurd h (by simp [pi_spec])
  | n + 10, _, _, _, h => exact absurd h (by simp [pi_spec])
end PIX
end
section
/-! ===== THE SIMULATION: whatever pi_run answers, the machine does ===== -/
section PIV
variable {p : Program} {l : Launch} {e : Env} {R : Room} {s : State} {m : MethodId} {args : Array Value} {below : List Frame} {meth : Method} {c : Code} {D : va_G} {cA : Nat → ClassId} {sa sv : Nat} {A : Nat → Prop} {y : MethodName} {cc : ByteArray} {mi : pi_M} {ad : Nat → Nat} {cu su : Nat} {Qc : Array Value → State → Outcome → State → Prop} {free : Addr → Prop}
theorem ps_end (C : pi_Cx p s m args meth c y cc mi D cA sa sv A) {i : Instr} {len : Nat} {σ : pi_S} {r : Option Value} (h : pi_end mi.2.2.1 i len σ = some r) (hd : decode cc σ.1 = .ok (i, len))
    (hQ : ∀ (ad' : Nat → Nat) (t : State) (locs : List Loc), pi_ext ad ad' σ.2.2.2 σ.2.2.2 → va_P D vwCl (pi_rW cA ad' σ.2.2.2) t.heap → va_D A (pi_rW cA ad' σ.2.2.2) → va_S A s.heap t.heap locs → s.WarmedH t.vm → Qc args s (.returned (r.map (pi_rv ad'))) t) (hF : ∀ q, A q → free q) :
    pi_Wat p l e R s m args below meth c (MQ below Qc args s cu su free) D cA A mi.2.1 ad σ cu su := by
  obtain ⟨pc, lv, st, w⟩ := σ
  dsimp only at hd hQ
  intro H locs ls hP hD hS hl
  have hq : ∀ t : State, t.heap = H → s.WarmedH t.vm → Qc args s (.returned (r.map (pi_rv ad))) t := fun t ht hW => hQ ad t locs (pi_ext.rf ad w) (by rw [ht]; exact hP) hD (by rw [ht]; exact hS) hW
  have hf : ∀ q ∈ locs, free q.base := fun q hq => hF _ (hS.2.2 q hq)
  cases i
  case ireturn =>
    simp only [pi_end] at h
    split at h
    · rename_i hlen; subst hlen
      split at h
      · rename_i hret
        split at h
        · rename_i hn
          cases h
          exact W.zret C.1 C.2.1 (C.2.2.2.2.2.2.1.trans hret) hn hq hf hd C.2.2.2.2.2.2.2.1
        · cases h
      · cases h
    · cases h
  case areturn =>
    simp only [pi_end] at h
    split at h
    · rename_i hlen; subst hlen
      split at h
      · rename_i hret
        cases h
        exact W.aret C.1 C.2.1 (C.2.2.2.2.2.2.1.trans hret) (Or.inl ⟨_, rfl⟩) (Or.inr ⟨_, rfl⟩) hq hf hd C.2.2.2.2.2.2.2.1
      · cases h
    · cases h
  case return_ =>
    simp only [pi_end] at h
    split at h
    · rename_i hlen; subst hlen
      split at h
      · rename_i hret
        cases h
        exact W.vret C.1 C.2.1 (C.2.2.2.2.2.2.1.trans hret) hq hf hd C.2.2.2.2.2.2.2.1
      · cases h
    · cases h
  all_goals (exact absurd h (by simp [pi_end]))
end PIV
theorem pi_dec {y : MethodName} {cc : ByteArray} {mi : pi_M} {na : Nat} {st : Bool} (ho : pi_okM (y, cc, mi) na st) {pc : Nat} {i : Instr} {len : Nat} (h : pi_fetch mi.2.2.2.2 pc = some (i, len)) : decode cc pc = .ok (i, len) := by
  obtain ⟨own, nL, ret, ini, tab⟩ := mi
  obtain ⟨-, -, -, -, -, -, -, -, -, -, -, o12⟩ := ho
  have h1 := List.all_eq_true.mp o12 _ (pi_fetch_mem h)
  exact of_decide_eq_true h1
theorem pi_sim : ∀ n, pi_Sim n
  | 0 => by
    intro d y cc mi na st ho σ cu su r w' c' u' h
    cases h
  | n + 1 => by
    have ih := pi_sim n
    intro d y cc mi na st ho σ cu su r w' c' u' h p l e R s m args below meth c D cA sa sv A Qc free ad C hfr hlo hcc huu hsa hQ hF
    obtain ⟨i, len, hf, h⟩ := pi_run_inv h
    have hd := pi_dec ho hf
    rcases h with ⟨r', hr, h⟩ | ⟨cp, kinds, kind, z, na', q, s', hi, hlk, hkc, rfl, h3, h5, hs, h⟩ | ⟨cp, kinds, kind, z, na', q, d', yz, ccz, mz, As, rest, r1, w1, c1, u1, hi, hlk, hkc, rfl, hk3, rfl, hz, ha, hr1, hkp, h⟩ | ⟨s', k, hs, h⟩ | ⟨s', hs, h⟩
    · cases h
      exact ps_end C hr hd hQ hF
    · have hm := pi_mono _ _ _ _ _ _ _ _ _ _ h
      have hsp := ps_spec (p := p) (l := l) (e := e) (R := R) (below := below) (Q := MQ below Qc args s c' u' free) (ad := ad) (cu := cu) (su := su) C hsa hi hlk hkc hs hd (by omega) (by omega) (fun h6 => by
        have : ¬ d < 5 := fun q => h5 ⟨q, h6⟩
        constructor <;> omega) (by omega) (by omega)
      exact hsp.2 (ih d y cc mi na st ho s' cu su r w' c' u' h p l e R s m args below meth c D cA sa sv A Qc free ad C hfr hlo hcc huu hsa (fun ad' t locs h1 => hQ ad' t locs ((pi_ext.len hsp.1).tr h1)) hF)
    · have hm := pi_mono _ _ _ _ _ _ _ _ _ _ h
      refine ps_call ih C hsa hi hlk hkc hk3 hz ha hr1 hkp hd (by omega) (by omega) (by omega) (by omega) ?_
      intro ad' hx
      exact ih (d' + 1) y cc mi na st ho _ _ _ r w' c' u' h p l e R s m args below meth c D cA sa sv A Qc free ad' C hfr hlo hcc huu ((hx.2.1 _ (Or.inr rfl)).trans hsa) (fun ad2 t locs h1 => hQ ad2 t locs (hx.tr h1)) hF
    · have hm := pi_mono _ _ _ _ _ _ _ _ _ _ h
      refine ps_new C hs hd (by omega) (by omega) ?_
      intro ad' hx
      exact ih d y cc mi na st ho _ _ _ r w' c' u' h p l e R s m args below meth c D cA sa sv A Qc free ad' C hfr hlo hcc huu ((hx.2.1 _ (Or.inr rfl)).trans hsa) (fun ad2 t locs h1 => hQ ad2 t locs (hx.tr h1)) hF
    · have hsp := ps_step (p := p) (l := l) (e := e) (R := R) (below := below) (Q := MQ below Qc args s c' u' free) (cu := cu) (su := su) C hsa hs hd
      exact hsp.2 (ih d y cc mi na st ho s' cu su r w' c' u' h p l e R s m args below meth c D cA sa sv A Qc free ad C hfr hlo hcc huu hsa (fun ad' t locs h1 => hQ ad' t locs ((pi_ext.len hsp.1).tr h1)) hF)
end
section
/-! ===== AN ABSTRACT INTERPRETER over the pure one: ints are forms (a constant and variables), variables have bounds, cells have a shape ===== -/
abbrev af_F : Type := Int × List Nat
/-- an int, a reference, a long -/
abbrev af_V : Type := af_F ⊕ (Nat ⊕ Unit)
/-- bounds of variables; (u, v, d): u is at least d more than v; (v, c, f): v was read in row c at place f -/
abbrev af_N : Type := List (Nat × Int × Int) × List (Nat × Nat × Int) × List (Nat × Nat × af_F)
abbrev af_L : Type := List (Nat × af_V)
abbrev af_T : Type := List ((Nat × Nat) × af_F)
/-- next variable, locals, stack, slots whose value is known, bounds -/
abbrev af_S : Type := Nat × af_L × List af_V × af_T × af_N
/-- a cell's shape: array (type, length, bounds by segments), or object (class, fields: reference, int with bounds, long) -/
abbrev af_C : Type := (Nat × Nat × List (Nat × Int × Int)) ⊕ (Nat × List (Nat ⊕ (Int × Int) ⊕ Unit))
abbrev af_H : Type := List af_C
/-- what may be written: cell, from, to (not included) -/
abbrev af_M : Type := List (Nat × Nat × Nat)
def af_lo : Int := -2147483648
def af_hi : Int := 2147483647
def af_lookL : List (Nat × Int × Int) → Nat → Option (Int × Int)
  | [], _ => none
  | (u, q) :: N, v => if u == v then some q else af_lookL N v
def af_look (N : af_N) (v : Nat) : Option (Int × Int) := af_lookL N.1 v
def af_bn (v : Nat) (lo hi : Int) (N : af_N) : af_N := ((v, lo, hi) :: N.1, N.2)
def af_ivs (N : af_N) : List Nat → Option (Int × Int)
  | [] => some (0, 0)
  | v :: vs => match af_look N v with
    | none => none
    | some (a, b) => match af_ivs N vs with
      | none => none
      | some (c, d) => some (a + c, b + d)
def af_iv (N : af_N) (f : af_F) : Option (Int × Int) := match af_ivs N f.2 with
  | none => none
  | some (a, b) => some (a + f.1, b + f.1)
def af_seg : List (Nat × Int × Int) → Nat → Option (Int × Int)
  | [], _ => none
  | (e, q) :: S, i => if i < e then some q else af_seg S i
/-- bounds over the places a to b -/
def af_join : List (Nat × Int × Int) → Nat → Nat → Option (Int × Int)
  | [], _, _ => none
  | (e, l, h) :: S, a, b => if e ≤ a then af_join S a b else if b < e then some (l, h) else match af_join S e b with
    | none => none
    | some (l2, h2) => some (if l ≤ l2 then l else l2, if h2 ≤ h then h else h2)
/-- may a value within lo, hi be put at each place a to b? -/
def af_fitS : List (Nat × Int × Int) → Nat → Nat → Int → Int → Bool
  | [], _, _, _, _ => false
  | (e, l, h) :: S, a, b, lo, hi => if e ≤ a then af_fitS S a b lo hi else decide (l ≤ lo) && (decide (hi ≤ h) && (if b < e then true else af_fitS S e b lo hi))
def af_cov (M : af_M) (c a b : Nat) : Bool := M.any (fun q => q.1 == c && (Nat.ble q.2.1 a && Nat.blt b q.2.2))
/-- the outcome of an operation: a form, or bounds -/
abbrev af_R : Type := af_F ⊕ (Int × Int)
def af_full : af_R := .inr (af_lo, af_hi)
def af_rng (lo hi : Int) : af_R := if af_lo ≤ lo ∧ hi ≤ af_hi then .inr (lo, hi) else af_full
def af_put (pc n : Nat) (L : af_L) (st : List af_V) (T : af_T) (N : af_N) (r : af_R) : List (Nat × af_S) := match r with
  | .inl f => [(pc, n, L, .inl f :: st, T, N)]
  | .inr (lo, hi) => [(pc, n + 1, L, .inl (0, [n]) :: st, T, af_bn n lo hi N)]
def af_add (N : af_N) (f g : af_F) : af_R := match af_iv N f, af_iv N g with
  | some (a, b), some (c, d) => if af_lo ≤ a + c ∧ b + d ≤ af_hi then (if f.2.length + g.2.length ≤ 4 then .inl (f.1 + g.1, f.2 ++ g.2) else .inr (a + c, b + d)) else af_full
  | _, _ => af_full
def af_erase : List Nat → Nat → Option (List Nat)
  | [], _ => none
  | u :: us, v => if u == v then some us else match af_erase us v with
    | none => none
    | some us' => some (u :: us')
def af_diff : List Nat → List Nat → Option (List Nat)
  | us, [] => some us
  | us, v :: vs => match af_erase us v with
    | none => none
    | some us' => af_diff us' vs
/-- f less g, where the variables of g are among those of f -/
def af_less (f g : af_F) : Option af_F := match af_diff f.2 g.2 with
  | none => none
  | some us => some (f.1 - g.1, us)
def af_subt (N : af_N) (f g : af_F) : af_R := match af_iv N f, af_iv N g with
  | some (a, b), some (c, d) => if af_lo ≤ a - d ∧ b - c ≤ af_hi then (match af_less f g with
    | some k => .inl k
    | none => .inr (a - d, b - c)) else af_full
  | _, _ => af_full
def af_min4 (a b c d : Int) : Int := let x := if a ≤ b then a else b; let y := if c ≤ d then c else d; if x ≤ y then x else y
def af_max4 (a b c d : Int) : Int := let x := if a ≤ b then b else a; let y := if c ≤ d then d else c; if x ≤ y then y else x
def af_mul (N : af_N) (f g : af_F) : af_R := match af_iv N f, af_iv N g with
  | some (a, b), some (c, d) => if a = b ∧ c = d ∧ af_lo ≤ a * c ∧ a * c ≤ af_hi then .inl (a * c, []) else af_rng (af_min4 (a * c) (a * d) (b * c) (b * d)) (af_max4 (a * c) (a * d) (b * c) (b * d))
  | _, _ => af_full
def af_and (N : af_N) (f g : af_F) : af_R := match af_iv N f, af_iv N g with
  | some (a, b), some (c, d) => if 0 ≤ c then (if 0 ≤ a then .inr (0, if b ≤ d then b else d) else .inr (0, d)) else if 0 ≤ a then .inr (0, b) else af_full
  | _, _ => af_full
/-- none: it may be a division by 0 -/
def af_rem (N : af_N) (f g : af_F) : Option af_R := match af_iv N f, af_iv N g with
  | some (a, b), some (c, d) => if 0 < c then (if 0 ≤ a then some (.inr (0, if b ≤ d - 1 then b else d - 1)) else some af_full) else none
  | _, _ => none
def af_ushr (N : af_N) (g : af_F) : af_R := match af_iv N g with
  | some (c, d) => if c = 8 ∧ d = 8 then .inr (0, 16777215) else af_full
  | none => af_full
/-- f is within lo, hi: none where it can't be -/
def af_clip (N : af_N) (f : af_F) (lo hi : Int) : Option af_N := match af_iv N f with
  | none => some N
  | some (a, b) => if hi < a ∨ b < lo then none else if lo ≤ a ∧ b ≤ hi then some N else match f.2 with
    | [v] => some (af_bn v ((if lo ≤ a then a else lo) - f.1) ((if b ≤ hi then b else hi) - f.1) N)
    | _ => some N
def af_two (N : af_N) (f : af_F) (lo hi : Int) (g : af_F) (lo2 hi2 : Int) : Option af_N := match af_clip N f lo hi with
  | none => none
  | some N1 => af_clip N1 g lo2 hi2
/-- the bounds where the comparison holds; none: it can't -/
def af_cmp (N : af_N) (cd : ClassFile.Cond) (f g : af_F) : Option af_N := match af_iv N f, af_iv N g with
  | some (a, b), some (c, d) => (match cd with
    | .eq => af_two N f c d g a b
    | .ne => if c = d then (if a = c then af_clip N f (c + 1) b else if b = c then af_clip N f a (c - 1) else some N) else if a = b then (if c = a then af_clip N g (a + 1) d else if d = a then af_clip N g c (a - 1) else some N) else some N
    | .lt => af_two N f a (d - 1) g (a + 1) d
    | .ge => af_two N f c b g c b
    | .gt => af_two N f (c + 1) b g c (b - 1)
    | .le => af_two N f a d g a d)
  | _, _ => some N
def af_neg (cd : ClassFile.Cond) : ClassFile.Cond := match cd with
  | .eq => .ne
  | .ne => .eq
  | .lt => .ge
  | .ge => .lt
  | .gt => .le
  | .le => .gt
def af_br (N : af_N) (cd : ClassFile.Cond) (f g : af_F) (t pc n : Nat) (L : af_L) (st : List af_V) (T : af_T) : List (Nat × af_S) :=
  (match af_cmp N cd f g with
  | none => []
  | some N1 => [(t, n, L, st, T, N1)]) ++ (match af_cmp N (af_neg cd) f g with
  | none => []
  | some N1 => [(pc, n, L, st, T, N1)])
def af_getL : af_L → Nat → Option af_V
  | [], _ => none
  | (j, v) :: L, i => if j == i then some v else af_getL L i
def af_isLong (v : af_V) : Bool := match v with
  | .inr (.inr _) => true
  | _ => false
def af_setL (L : af_L) (i : Nat) (v : af_V) : af_L := (i, v) :: L.filter (fun q => !(q.1 == i) && !(q.1 + 1 == i && af_isLong q.2))
def af_getT : af_T → Nat → Nat → Option af_F
  | [], _, _ => none
  | ((c, j), f) :: T, a, i => if c == a && j == i then some f else af_getT T a i
/-- a place that is none of the world's: the sign at which the model's reader stands (a function of cells 61 and 62) -/
def af_virt : Nat := 1000
/-- does what may be written here touch that sign? -/
def af_dep (c a b : Nat) : Bool := c == 62 || (c == 61 && (Nat.ble a 4 && Nat.ble 3 b))
/-- forget what is known of the places a to b of cell c -/
def af_drop (T : af_T) (c a b : Nat) : af_T := T.filter (fun q => !(q.1.1 == c && (Nat.ble a q.1.2 && Nat.ble q.1.2 b)) && !(q.1.1 == af_virt && af_dep c a b))
/-- a read of one place: what is known, or a new variable that is known from now on -/
def af_read (NT : af_M) (pc n : Nat) (L : af_L) (st : List af_V) (T : af_T) (N : af_N) (c i : Nat) (lo hi : Int) : List (Nat × af_S) := match af_getT T c i with
  | some f => [(pc, n, L, .inl f :: st, T, N)]
  | none => if af_cov NT c i i = true then af_put pc n L st T N (.inr (lo, hi)) else [(pc, n + 1, L, .inl (0, [n]) :: st, ((c, i), (0, [n])) :: T, af_bn n lo hi N)]
/-- the places that an index may name: within n -/
def af_idx (N : af_N) (f : af_F) (n : Nat) : Option (Nat × Nat) := match af_iv N f with
  | some (a, b) => if 0 ≤ a ∧ b < n then some (a.toNat, b.toNat) else none
  | none => none
/-- a read of one of several places -/
def af_putO (pc n : Nat) (L : af_L) (st : List af_V) (T : af_T) (N : af_N) (lo hi : Int) (a : Nat) (f : af_F) : List (Nat × af_S) := [(pc, n + 1, L, .inl (0, [n]) :: st, T, ((n, lo, hi) :: N.1, N.2.1, (n, a, f) :: N.2.2))]
def af_olook : List (Nat × Nat × af_F) → Nat → Option (Nat × af_F)
  | [], _ => none
  | (u, q) :: O, v => if u == v then some q else af_olook O v
def af_shf (Sc S : List (Nat × Int × Int)) (k : Int) : Nat → Nat → Bool
  | 0, _ => true
  | c + 1, j => (if 0 ≤ (j : Int) + k then (match af_seg Sc ((j : Int) + k).toNat with
      | none => false
      | some p => match af_seg S j with
        | none => false
        | some q => decide (q.1 ≤ p.1) && decide (p.2 ≤ q.2)) else false) && af_shf Sc S k c (j + 1)
/-- a value that was read in a row of the same bounds -/
def af_orig (Sh : af_H) (N : af_N) (g : af_F) (S : List (Nat × Int × Int)) (f : af_F) (x y : Nat) : Bool := match g with
  | (0, [v]) => (match af_olook N.2.2 v with
    | none => false
    | some (c, h) => (match af_less h f with
      | some (k, []) => (match Sh[c]? with
        | some (.inl (0, _, Sc)) => af_shf Sc S k (y + 1 - x) x
        | _ => false)
      | _ => false))
  | _ => false
def af_tsw (pc n : Nat) (L : af_L) (st : List af_V) (T : af_T) (N : af_N) (f : af_F) : Int → List Int → Option (List (Nat × af_S))
  | _, [] => some []
  | k, off :: offs => match af_tsw pc n L st T N f (k + 1) offs with
    | none => none
    | some R => match af_clip N f k k with
      | none => some R
      | some N1 => match pi_tgt pc off with
        | none => none
        | some t => some ((t, n, L, st, T, N1) :: R)
def af_one (t : Option Nat) (n : Nat) (L : af_L) (st : List af_V) (T : af_T) (N1 : Option af_N) : Option (List (Nat × af_S)) := match N1 with
  | none => some []
  | some N1 => match t with
    | none => none
    | some t => some [(t, n, L, st, T, N1)]
def af_app3 (a b c : Option (List (Nat × af_S))) : Option (List (Nat × af_S)) := match a, b, c with
  | some x, some y, some z => some (x ++ (y ++ z))
  | _, _, _ => none
def af_lsw (pc n : Nat) (L : af_L) (st : List af_V) (T : af_T) (N : af_N) (f : af_F) : List (Int × Int) → Option (List (Nat × af_S))
  | [] => some []
  | (k, off) :: ps => match af_lsw pc n L st T N f ps with
    | none => none
    | some R => match af_clip N f k k with
      | none => some R
      | some N1 => match pi_tgt pc off with
        | none => none
        | some t => some ((t, n, L, st, T, N1) :: R)
def af_step (own nL : Nat) (Sh : af_H) (M NT : af_M) (i : Instr) (len pc : Nat) (σ : af_S) : Option (List (Nat × af_S)) := match σ with
  | (n, L, st, T, N) => match i with
    | .iconst k => if len = 1 ∧ af_lo ≤ k ∧ k ≤ af_hi then some [(pc + 1, n, L, .inl (k, []) :: st, T, N)] else none
    | .bipush k => if len = 2 ∧ -128 ≤ k ∧ k ≤ 127 then some [(pc + 2, n, L, .inl (k, []) :: st, T, N)] else none
    | .sipush k => if len = 3 ∧ -32768 ≤ k ∧ k ≤ 32767 then some [(pc + 3, n, L, .inl (k, []) :: st, T, N)] else none
    | .lconst _ => if len = 1 then some [(pc + 1, n, L, .inr (.inr ()) :: st, T, N)] else none
    | .ldc k => if len = 2 then (match pi_look pi_lT own k with
      | some (v, _) => some [(pc + 2, n, L, .inl (v.toInt, []) :: st, T, N)]
      | none => none) else none
    | .ldc_w k => if len = 3 then (match pi_look pi_lT own k with
      | some (v, _) => some [(pc + 3, n, L, .inl (v.toInt, []) :: st, T, N)]
      | none => none) else none
    | .ldc2_w k => if len = 3 then (match pi_look pi_qT own k with
      | some _ => some [(pc + 3, n, L, .inr (.inr ()) :: st, T, N)]
      | none => none) else none
    | .iload k => if len = 2 then (match af_getL L k with
      | some (.inl f) => some [(pc + 2, n, L, .inl f :: st, T, N)]
      | _ => none) else none
    | .iload_n k => if len = 1 then (match af_getL L (k : Nat) with
      | some (.inl f) => some [(pc + 1, n, L, .inl f :: st, T, N)]
      | _ => none) else none
    | .lload_n k => if len = 1 then (match af_getL L (k : Nat) with
      | some (.inr (.inr _)) => some [(pc + 1, n, L, .inr (.inr ()) :: st, T, N)]
      | _ => none) else none
    | .aload_n k => if len = 1 then (match af_getL L (k : Nat) with
      | some (.inr (.inl a)) => some [(pc + 1, n, L, .inr (.inl a) :: st, T, N)]
      | _ => none) else none
    | .istore k => if len = 2 ∧ k < nL then (match st with
      | .inl f :: r => some [(pc + 2, n, af_setL L k (.inl f), r, T, N)]
      | _ => none) else none
    | .istore_n k => if len = 1 ∧ (k : Nat) < nL then (match st with
      | .inl f :: r => some [(pc + 1, n, af_setL L (k : Nat) (.inl f), r, T, N)]
      | _ => none) else none
    | .iinc k j => if len = 3 ∧ k < nL ∧ -32768 ≤ j ∧ j ≤ 32767 then (match af_getL L k with
      | some (.inl f) => (match af_add N f (j, []) with
        | .inl g => some [(pc + 3, n, af_setL L k (.inl g), st, T, N)]
        | .inr (lo, hi) => some [(pc + 3, n + 1, af_setL L k (.inl (0, [n])), st, T, af_bn n lo hi N)])
      | _ => none) else none
    | .iadd => if len = 1 then (match st with
      | .inl g :: .inl f :: r => some (af_put (pc + 1) n L r T N (af_add N f g))
      | _ => none) else none
    | .isub => if len = 1 then (match st with
      | .inl g :: .inl f :: r => some (af_put (pc + 1) n L r T N (af_subt N f g))
      | _ => none) else none
    | .imul => if len = 1 then (match st with
      | .inl g :: .inl f :: r => some (af_put (pc + 1) n L r T N (af_mul N f g))
      | _ => none) else none
    | .iand => if len = 1 then (match st with
      | .inl g :: .inl f :: r => some (af_put (pc + 1) n L r T N (af_and N f g))
      | _ => none) else none
    | .ior => if len = 1 then (match st with
      | .inl _ :: .inl _ :: r => some (af_put (pc + 1) n L r T N af_full)
      | _ => none) else none
    | .ixor => if len = 1 then (match st with
      | .inl _ :: .inl _ :: r => some (af_put (pc + 1) n L r T N af_full)
      | _ => none) else none
    | .ishl => if len = 1 then (match st with
      | .inl _ :: .inl _ :: r => some (af_put (pc + 1) n L r T N af_full)
      | _ => none) else none
    | .ishr => if len = 1 then (match st with
      | .inl _ :: .inl _ :: r => some (af_put (pc + 1) n L r T N af_full)
      | _ => none) else none
    | .iushr => if len = 1 then (match st with
      | .inl g :: .inl _ :: r => some (af_put (pc + 1) n L r T N (af_ushr N g))
      | _ => none) else none
    | .irem => if len = 1 then (match st with
      | .inl g :: .inl f :: r => (match af_rem N f g with
        | none => none
        | some q => some (af_put (pc + 1) n L r T N q))
      | _ => none) else none
    | .i2b => if len = 1 then (match st with
      | .inl _ :: r => some (af_put (pc + 1) n L r T N (.inr (-128, 127)))
      | _ => none) else none
    | .i2l => if len = 1 then (match st with
      | .inl _ :: r => some [(pc + 1, n, L, .inr (.inr ()) :: r, T, N)]
      | _ => none) else none
    | .ladd => if len = 1 then (match st with
      | .inr (.inr _) :: .inr (.inr _) :: r => some [(pc + 1, n, L, .inr (.inr ()) :: r, T, N)]
      | _ => none) else none
    | .lmul => if len = 1 then (match st with
      | .inr (.inr _) :: .inr (.inr _) :: r => some [(pc + 1, n, L, .inr (.inr ()) :: r, T, N)]
      | _ => none) else none
    | .lor => if len = 1 then (match st with
      | .inr (.inr _) :: .inr (.inr _) :: r => some [(pc + 1, n, L, .inr (.inr ()) :: r, T, N)]
      | _ => none) else none
    | .lshl => if len = 1 then (match st with
      | .inl _ :: .inr (.inr _) :: r => some [(pc + 1, n, L, .inr (.inr ()) :: r, T, N)]
      | _ => none) else none
    | .lcmp => if len = 1 then (match st with
      | .inr (.inr _) :: .inr (.inr _) :: r => some (af_put (pc + 1) n L r T N (.inr (-1, 1)))
      | _ => none) else none
    | .dup => if len = 1 then (match st with
      | .inl f :: r => some [(pc + 1, n, L, .inl f :: .inl f :: r, T, N)]
      | .inr (.inl a) :: r => some [(pc + 1, n, L, .inr (.inl a) :: .inr (.inl a) :: r, T, N)]
      | _ => none) else none
    | .pop => if len = 1 then (match st with
      | .inl _ :: r => some [(pc + 1, n, L, r, T, N)]
      | .inr (.inl _) :: r => some [(pc + 1, n, L, r, T, N)]
      | _ => none) else none
    | .dup2 => if len = 1 then (match st with
      | .inl f :: .inr (.inl a) :: r => some [(pc + 1, n, L, .inl f :: .inr (.inl a) :: .inl f :: .inr (.inl a) :: r, T, N)]
      | _ => none) else none
    | .ifCond cd off => if len = 3 then (match st, pi_tgt pc off with
      | .inl f :: r, some t => some (af_br N cd f (0, []) t (pc + 3) n L r T)
      | _, _ => none) else none
    | .if_icmp cd off => if len = 3 then (match st, pi_tgt pc off with
      | .inl g :: .inl f :: r, some t => some (af_br N cd f g t (pc + 3) n L r T)
      | _, _ => none) else none
    | .goto off => if len = 3 then (match pi_tgt pc off with
      | some t => some [(t, n, L, st, T, N)]
      | none => none) else none
    | .tableswitch dflt lo hi offs => (match st with
      | .inl f :: r => if (offs.size : Int) = hi - lo + 1 then af_app3 (af_tsw pc n L r T N f lo offs.toList) (af_one (pi_tgt pc dflt) n L r T (af_clip N f af_lo (lo - 1))) (af_one (pi_tgt pc dflt) n L r T (af_clip N f (hi + 1) af_hi)) else none
      | _ => none)
    | .lookupswitch dflt ps => (match st with
      | .inl f :: r => if (ps.toList.zip (ps.toList.drop 1)).all (fun (a, next) => a.1 < next.1) = true then af_app3 (af_lsw pc n L r T N f ps.toList) (af_one (pi_tgt pc dflt) n L r T (some N)) (some []) else none
      | _ => none)
    | .iaload => if len = 1 then (match st with
      | .inl f :: .inr (.inl a) :: r => (match Sh[a]? with
        | some (.inl (0, m, S)) => (match af_idx N f m with
          | none => none
          | some (x, y) => if x = y then (match af_seg S x with
            | none => none
            | some (lo, hi) => some (af_read NT (pc + 1) n L r T N a x lo hi)) else (match af_join S x y with
            | none => none
            | some (lo, hi) => some (af_putO (pc + 1) n L r T N lo hi a f)))
        | _ => none)
      | _ => none) else none
    | .baload => if len = 1 then (match st with
      | .inl f :: .inr (.inl a) :: r => (match Sh[a]? with
        | some (.inl (t, m, S)) => if t = 1 ∨ t = 3 then (match af_idx N f m with
          | none => none
          | some (x, y) => if x = y then (match af_seg S x with
            | none => none
            | some (lo, hi) => some (af_read NT (pc + 1) n L r T N a x lo hi)) else (match af_join S x y with
            | none => none
            | some (lo, hi) => some (af_put (pc + 1) n L r T N (.inr (lo, hi))))) else none
        | _ => none)
      | _ => none) else none
    | .laload => if len = 1 then (match st with
      | .inl f :: .inr (.inl a) :: r => (match Sh[a]? with
        | some (.inl (2, m, _)) => (match af_idx N f m with
          | none => none
          | some _ => some [(pc + 1, n, L, .inr (.inr ()) :: r, T, N)])
        | _ => none)
      | _ => none) else none
    | .iastore => if len = 1 then (match st with
      | .inl g :: .inl f :: .inr (.inl a) :: r => (match Sh[a]? with
        | some (.inl (0, m, S)) => (match af_idx N f m, af_iv N g with
          | some (x, y), some (lo, hi) => if (af_fitS S x y lo hi = true ∨ af_orig Sh N g S f x y = true) ∧ af_cov M a x y = true then some [(pc + 1, n, L, r, if x = y ∧ af_cov NT a x x = false then ((a, x), g) :: af_drop T a x y else af_drop T a x y, N)] else none
          | _, _ => none)
        | _ => none)
      | _ => none) else none
    | .bastore => if len = 1 then (match st with
      | .inl g :: .inl f :: .inr (.inl a) :: r => (match Sh[a]? with
        | some (.inl (1, m, S)) => (match af_idx N f m with
          | some (x, y) => if af_fitS S x y (-128) 127 = true ∧ af_cov M a x y = true then some [(pc + 1, n, L, r, af_drop T a x y, N)] else none
          | _ => none)
        | some (.inl (3, m, S)) => (match af_idx N f m, af_iv N g with
          | some (x, y), some (lo, hi) => if af_fitS S x y lo hi = true ∧ 0 ≤ lo ∧ hi ≤ 1 ∧ af_cov M a x y = true then some [(pc + 1, n, L, r, if x = y ∧ af_cov NT a x x = false then ((a, x), g) :: af_drop T a x y else af_drop T a x y, N)] else none
          | _, _ => none)
        | _ => none)
      | _ => none) else none
    | .lastore => if len = 1 then (match st with
      | .inr (.inr _) :: .inl f :: .inr (.inl a) :: r => (match Sh[a]? with
        | some (.inl (2, m, _)) => (match af_idx N f m with
          | some (x, y) => if af_cov M a x y = true then some [(pc + 1, n, L, r, T, N)] else none
          | none => none)
        | _ => none)
      | _ => none) else none
    | .arraylength => if len = 1 then (match st with
      | .inr (.inl a) :: r => (match Sh[a]? with
        | some (.inl (_, m, _)) => if (m : Int) ≤ af_hi then some [(pc + 1, n, L, .inl ((m : Int), []) :: r, T, N)] else none
        | _ => none)
      | _ => none) else none
    | .getfield cp => if len = 3 then (match st with
      | .inr (.inl a) :: r => (match pi_look pi_fT own cp with
        | some (ci, k, _) => (match Sh[a]? with
          | some (.inr (c, fts)) => if c = ci then (match fts[k]? with
            | some (.inl b) => some [(pc + 3, n, L, .inr (.inl b) :: r, T, N)]
            | some (.inr (.inl (lo, hi))) => some (af_read NT (pc + 3) n L r T N a k lo hi)
            | some (.inr (.inr _)) => some [(pc + 3, n, L, .inr (.inr ()) :: r, T, N)]
            | none => none) else none
          | _ => none)
        | none => none)
      | _ => none) else none
    | .putfield cp => if len = 3 then (match st with
      | .inl g :: .inr (.inl a) :: r => (match pi_look pi_fT own cp with
        | some (ci, k, _) => (match Sh[a]?, af_iv N g with
          | some (.inr (c, fts)), some (lo, hi) => if c = ci ∧ (vwCl[ci]?.map (fun q => (q.2.1 k).2.2.2)) = some false ∧ af_cov M a k k = true then (match fts[k]? with
            | some (.inr (.inl (l, h))) => if l ≤ lo ∧ hi ≤ h ∧ (pi_ty ci k = .int ∨ (pi_ty ci k = .boolean ∧ l = 0 ∧ h = 1)) then some [(pc + 3, n, L, r, ((a, k), g) :: af_drop T a k k, N)] else none
            | _ => none) else none
          | _, _ => none)
        | none => none)
      | .inr (.inr _) :: .inr (.inl a) :: r => (match pi_look pi_fT own cp with
        | some (ci, k, _) => (match Sh[a]? with
          | some (.inr (c, fts)) => if c = ci ∧ (vwCl[ci]?.map (fun q => (q.2.1 k).2.2.2)) = some false ∧ af_cov M a k k = true ∧ pi_ty ci k = .long then (match fts[k]? with
            | some (.inr (.inr _)) => some [(pc + 3, n, L, r, T, N)]
            | _ => none) else none
          | _ => none)
        | none => none)
      | _ => none) else none
    | _ => none
end
section
/-! ===== patterns, contracts, cuts: the checker ===== -/
/-- next variable, values, slots, bounds -/
abbrev af_Q : Type := Nat × List af_V × af_T × af_N
/-- a contract: the method's number, how many variables are of its start, its start, what it may write, its ends -/
abbrev af_K : Type := Nat × Nat × af_Q × af_M × List af_Q
abbrev af_X : Type := List (Nat × af_F)
/-- a measure: constant, sign (0: none, 1: less the form, 2: and the form), form -/
abbrev af_U : Type := List (Int × Nat × af_F)
def af_thk : af_X → Nat → Option af_F
  | [], _ => none
  | (u, f) :: θ, v => if u == v then some f else af_thk θ v
def af_th (E : Nat) (θ : af_X) (v : Nat) : Option af_F := if v < E then some (0, [v]) else af_thk θ v
def af_inst (E n : Nat) (θ : af_X) (v : Nat) : Option af_F := if v < E then af_thk θ v else some (0, [n + (v - E)])
def af_sbs (g : Nat → Option af_F) : List Nat → Option af_F
  | [] => some (0, [])
  | v :: vs => match g v with
    | none => none
    | some f => match af_sbs g vs with
      | none => none
      | some h => some (f.1 + h.1, f.2 ++ h.2)
def af_sb (g : Nat → Option af_F) (f : af_F) : Option af_F := match af_sbs g f.2 with
  | none => none
  | some h => some (f.1 + h.1, h.2)
def af_m1 (E : Nat) (θ : af_X) (p c : af_F) : Option af_X := match p.2.filter (fun v => (af_th E θ v).isNone) with
  | [] => (match af_sb (af_th E θ) p with
    | none => none
    | some f => (match af_less c f with
      | some (0, []) => some θ
      | _ => none))
  | [u] => (match af_erase p.2 u with
    | none => none
    | some us => (match af_sb (af_th E θ) (p.1, us) with
      | none => none
      | some f => (match af_less c f with
        | none => none
        | some g => some ((u, g) :: θ))))
  | _ => none
def af_mv (E : Nat) (θ : af_X) (p c : af_V) : Option af_X := match p, c with
  | .inl f, .inl g => af_m1 E θ f g
  | .inr (.inl a), .inr (.inl b) => if a = b then some θ else none
  | .inr (.inr _), .inr (.inr _) => some θ
  | _, _ => none
def af_mvs (E : Nat) : af_X → List af_V → List af_V → Option af_X
  | θ, [], [] => some θ
  | θ, p :: ps, c :: cs => (match af_mv E θ p c with
    | none => none
    | some θ' => af_mvs E θ' ps cs)
  | _, _, _ => none
def af_mL (E : Nat) (L : af_L) : af_X → af_L → Option af_X
  | θ, [] => some θ
  | θ, (i, p) :: ps => (match af_getL L i with
    | none => none
    | some c => (match af_mv E θ p c with
      | none => none
      | some θ' => af_mL E L θ' ps))
def af_mT (E : Nat) (T : af_T) : af_X → af_T → Option af_X
  | θ, [] => some θ
  | θ, ((c, i), p) :: ps => (match af_getT T c i with
    | none => none
    | some g => (match af_m1 E θ p g with
      | none => none
      | some θ' => af_mT E T θ' ps))
def af_canc : List Nat → List Nat → List Nat × List Nat
  | us, [] => (us, [])
  | us, v :: vs => match af_erase us v with
    | some us' => af_canc us' vs
    | none => match af_canc us vs with
      | (a, b) => (a, v :: b)
/-- a bound from below of f less g -/
def af_dlook : List (Nat × Nat × Int) → Nat → Nat → Option Int
  | [], _, _ => none
  | (a, b, d) :: D, u, v => if a == u && b == v then some d else af_dlook D u v
def af_low2 (N : af_N) (k : Int) (us vs : List Nat) : Option Int := match af_ivs N us, af_ivs N vs with
  | some (a, _), some (_, d) => some (k + a - d)
  | _, _ => none
def af_low (N : af_N) (f g : af_F) : Option Int := match af_canc f.2 g.2 with
  | ([u], [v]) => (match af_dlook N.2.1 u v with
    | some d => some (f.1 - g.1 + d)
    | none => af_low2 N (f.1 - g.1) [u] [v])
  | (us, vs) => af_low2 N (f.1 - g.1) us vs
def af_mN (E : Nat) (θ : af_X) (N : af_N) (P : af_N) : Bool := P.1.all (fun q => match af_th E θ q.1 with
  | none => false
  | some f => match af_iv N f with
    | none => false
    | some (a, b) => decide (q.2.1 ≤ a) && decide (b ≤ q.2.2)) && P.2.2.isEmpty && P.2.1.all (fun q => match af_th E θ q.1 with
  | none => false
  | some f => match af_th E θ q.2.1 with
    | none => false
    | some g => match af_low N f g with
      | none => false
      | some d => decide (q.2.2 ≤ d))
/-- values, slots and bounds of a state against a pattern -/
def af_mQ (E : Nat) (vs : List af_V) (T : af_T) (N : af_N) (P : af_Q) : Option af_X := match af_mvs E [] P.2.1 vs with
  | none => none
  | some θ => match af_mT E T θ P.2.2.1 with
    | none => none
    | some θ' => if af_mN E θ' N P.2.2.2 = true then some θ' else none
/-- a state against a state's pattern -/
def af_mS (E : Nat) (σ P : af_S) : Option af_X := match af_mL E σ.2.1 [] P.2.1 with
  | none => none
  | some θ => match af_mvs E θ P.2.2.1 σ.2.2.1 with
    | none => none
    | some θ1 => match af_mT E σ.2.2.2.1 θ1 P.2.2.2.1 with
      | none => none
      | some θ2 => if af_mN E θ2 σ.2.2.2.2 P.2.2.2.2 = true then some θ2 else none
def af_pN (E n : Nat) (θ : af_X) : af_N → List (Nat × Int × Int) → Option (Option af_N)
  | N, [] => some (some N)
  | N, (v, lo, hi) :: P => if v < E then (match af_thk θ v with
      | none => none
      | some f => (match af_clip N f lo hi with
        | none => some none
        | some N1 => af_pN E n θ N1 P)) else af_pN E n θ (af_bn (n + (v - E)) lo hi N) P
def af_addD (u w : Nat) (d : Int) (N : af_N) : af_N := (N.1, (u, w, d) :: (N.2.1.filterMap (fun q => if q.1 == w then some (u, q.2.1, d + q.2.2) else none) ++ N.2.1), N.2.2)
def af_pD (g : Nat → Option af_F) : af_N → List (Nat × Nat × Int) → af_N
  | N, [] => N
  | N, (u, v, d) :: P => match g u, g v with
    | some (c1, [a]), some (c2, [b]) => af_pD g (af_addD a b (d + c2 - c1) N) P
    | _, _ => af_pD g N P
def af_pT (g : Nat → Option af_F) : af_T → Option af_T
  | [] => some []
  | (l, f) :: T => match af_sb g f with
    | none => none
    | some f' => match af_pT g T with
      | none => none
      | some T' => some ((l, f') :: T')
def af_pV (g : Nat → Option af_F) : List af_V → Option (List af_V)
  | [] => some []
  | .inl f :: vs => (match af_sb g f with
    | none => none
    | some f' => match af_pV g vs with
      | none => none
      | some vs' => some (.inl f' :: vs'))
  | .inr a :: vs => (match af_pV g vs with
    | none => none
    | some vs' => some (.inr a :: vs'))
/-- behind a call: one end of the contract -/
def af_keepT (K : af_M) (T : af_T) : af_T := T.filter (fun q => !(af_cov K q.1.1 q.1.2 q.1.2) && !(q.1.1 == af_virt && K.any (fun k => Nat.blt k.2.1 k.2.2 && af_dep k.1 k.2.1 (k.2.2 - 1))))
def af_post (E : Nat) (θ : af_X) (K : af_M) (pc n : Nat) (L : af_L) (st : List af_V) (T : af_T) (N : af_N) (P : af_Q) : Option (List (Nat × af_S)) := match af_pN E n θ N P.2.2.2.1 with
  | none => none
  | some none => some []
  | some (some N1) => match af_pV (af_inst E n θ) P.2.1 with
    | none => none
    | some vs => match af_pT (af_inst E n θ) P.2.2.1 with
      | none => none
      | some T1 => if E ≤ P.1 then some [(pc, n + (P.1 - E), L, vs ++ st, T1 ++ af_keepT K T, af_pD (af_inst E n θ) N1 P.2.2.2.2.1)] else none
def af_posts (E : Nat) (θ : af_X) (K : af_M) (pc n : Nat) (L : af_L) (st : List af_V) (T : af_T) (N : af_N) : List af_Q → Option (List (Nat × af_S))
  | [] => some []
  | P :: Ps => match af_post E θ K pc n L st T N P with
    | none => none
    | some R => match af_posts E θ K pc n L st T N Ps with
      | none => none
      | some R' => some (R ++ R')
/-- the bounds that the shape gives of a place -/
def af_bnd (Sh : af_H) (c i : Nat) : Option (Int × Int) := if c == af_virt then (if i == 0 then some (-1, 255) else none) else match Sh[c]? with
  | some (.inl (t, m, S)) => if t = 2 then none else if i < m then af_seg S i else none
  | some (.inr (_, fts)) => (match fts[i]? with
    | some (.inr (.inl q)) => some q
    | _ => none)
  | none => none
/-- places of a contract's start of which nothing is known: new variables -/
def af_mat (Sh : af_H) : af_T → Nat → af_T → af_N → Option (Nat × af_T × af_N)
  | [], n, T, N => some (n, T, N)
  | ((c, i), _) :: P, n, T, N => match af_getT T c i with
    | some _ => af_mat Sh P n T N
    | none => match af_bnd Sh c i with
      | none => none
      | some (lo, hi) => af_mat Sh P (n + 1) (((c, i), (0, [n])) :: T) (af_bn n lo hi N)
def af_find (Sh : af_H) (z : Nat) (As : List af_V) (n : Nat) (T : af_T) (N : af_N) : List af_K → Option (af_K × af_X × Nat × af_T × af_N)
  | [] => none
  | K :: Ks => if K.1 == z then (match af_mat Sh K.2.2.1.2.2.1 n T N with
      | none => af_find Sh z As n T N Ks
      | some (n1, T1, N1) => (match af_mQ 0 As T1 N1 K.2.2.1 with
        | some θ => some (K, θ, n1, T1, N1)
        | none => af_find Sh z As n T N Ks)) else af_find Sh z As n T N Ks
def af_covM (M K : af_M) : Bool := K.all (fun q => Nat.ble q.2.2 q.2.1 || af_cov M q.1 q.2.1 (q.2.2 - 1))
def af_vcats (st : List af_V) : Nat := (st.map fun v => if af_isLong v then 2 else 1).sum
def af_rcv (Sh : af_H) (own : Nat) (As : List af_V) : Bool := match As with
  | .inr (.inl a) :: _ => (match Sh[a]? with
    | some (.inr (c, _)) => c == own
    | _ => false)
  | _ => false
def af_call (own : Nat) (Sh : af_H) (M : af_M) (CT : List af_K) (kinds : List Nat) (cp len pc : Nat) (σ : af_S) : Option (List (Nat × af_S)) := match σ with
  | (n, L, st, T, N) => match pi_look pi_iT own cp with
    | none => none
    | some (kind, z, na, _) => if kinds.contains kind = false ∨ len ≠ 3 then none else match kind with
      | 5 => (match st with
        | .inl k :: .inl dp :: .inr (.inl a1) :: .inl sp :: .inr (.inl a0) :: r => (match af_iv N k, af_iv N dp, af_iv N sp with
          | some (k1, k2), some (d1, d2), some (s1, s2) => (match Sh[a0]?, Sh[a1]? with
            | some (.inl (t0, m0, S0)), some (.inl (t1, m1, S1)) => if 0 ≤ k1 ∧ 0 ≤ d1 ∧ 0 ≤ s1 ∧ s2 + k2 ≤ m0 ∧ d2 + k2 ≤ m1 ∧ t0 = t1 ∧ (t0 = 2 ∨ (t0 = 0 ∧ (S1 = [(m1, af_lo, af_hi)] ∨ (S0 = S1 ∧ s1 = s2 ∧ d1 = d2 ∧ s1 = d1)))) ∧ af_vcats r ≤ 8 ∧ 0 < m1 ∧ af_cov M a1 0 (m1 - 1) = true then some [(pc + 3, n, L, r, af_drop T a1 0 (m1 - 1), N)] else none
            | _, _ => none)
          | _, _, _ => none)
        | _ => none)
      | 8 => (match st with
        | .inl g :: .inl f :: r => (match af_iv N f, af_iv N g with
          | some (a, b), some (c, d) => if af_vcats r ≤ 8 then some (af_put (pc + 3) n L r T N (.inr (if a ≤ c then a else c, if b ≤ d then b else d))) else none
          | _, _ => none)
        | _ => none)
      | 9 => (match st with
        | .inl g :: .inl f :: r => (match af_iv N f, af_iv N g with
          | some (a, b), some (c, d) => if af_vcats r ≤ 8 then some (af_put (pc + 3) n L r T N (.inr (if a ≤ c then c else a, if b ≤ d then d else b))) else none
          | _, _ => none)
        | _ => none)
      | _ => if 2 < kind then none else
        let na' := if kind < 2 then na else na + 1
        let As := (st.take na').reverse
        let rest := st.drop na'
        if As.length = na' ∧ af_vcats rest ≤ 8 then (match pi_mt[z]? with
          | none => none
          | some (_, _, mz) => if (kind < 2 ∨ af_rcv Sh mz.1 As = true) ∧ af_vcats As ≤ mz.2.1 ∧ mz.2.2.2.1 = false ∧ mz.2.1 ≤ 40 then (match af_find Sh z As n T N CT with
            | none => none
            | some (K, θ, n1, T1, N1) => if af_covM M K.2.2.2.1 = true then af_posts K.2.1 θ K.2.2.2.1 (pc + 3) n1 L rest T1 N1 K.2.2.2.2 else none) else none) else none
/-- the method's own: class number, locals, what it returns, code; the shape; contracts; variables of its start; what it may write; its ends; the cuts; places that are not kept; where to split by which place -/
abbrev af_G : Type := (Nat × Nat × Option FieldType × List (Nat × Instr × Nat)) × af_H × List af_K × Nat × af_M × List af_Q × List (Nat × af_S × af_U) × af_M × List (Nat × Nat × Nat)
def af_end (ret : Option FieldType) (E : Nat) (Ps : List af_Q) (i : Instr) (len : Nat) (σ : af_S) : Bool := match σ with
  | (_, _, st, T, N) => match i with
    | .ireturn => decide (len = 1) && (match st, ret with
      | [.inl f], some .int => Ps.any (fun P => (af_mQ E [.inl f] T N P).isSome)
      | [.inl f], some .boolean => (match af_iv N f with
        | some (a, b) => decide (0 ≤ a) && (decide (b ≤ 1) && Ps.any (fun P => (af_mQ E [.inl f] T N P).isSome))
        | none => false)
      | _, _ => false)
    | .areturn => decide (len = 1) && (match st, ret with
      | [.inr (.inl a)], some (.object _) => Ps.any (fun P => (af_mQ E [.inr (.inl a)] T N P).isSome)
      | _, _ => false)
    | .return_ => decide (len = 1) && (match st, ret with
      | [], none => Ps.any (fun P => (af_mQ E [] T N P).isSome)
      | _, _ => false)
    | _ => false
def af_plain (G : af_G) (pc : Nat) (σ : af_S) : Option (List (Nat × af_S)) := match pi_fetch G.1.2.2.2 pc with
  | none => none
  | some (i, len) => if pi_isEnd i = true then (if af_end G.1.2.2.1 G.2.2.2.1 G.2.2.2.2.2.1 i len σ = true then some [] else none) else match pi_inv i with
    | some (cp, kinds) => af_call G.1.1 G.2.1 G.2.2.2.2.1 G.2.2.1 kinds cp len pc σ
    | none => af_step G.1.1 G.1.2.1 G.2.1 G.2.2.2.2.1 G.2.2.2.2.2.2.2.1 i len pc σ
def af_spl (pc n : Nat) (L : af_L) (st : List af_V) (T : af_T) (N : af_N) (f : af_F) : Nat → Int → List (Nat × af_S)
  | 0, _ => []
  | m + 1, k => match af_clip N f k k with
    | none => af_spl pc n L st T N f m (k + 1)
    | some N1 => (pc, n, L, st, T, N1) :: af_spl pc n L st T N f m (k + 1)
def af_next (G : af_G) (pc : Nat) (σ : af_S) : Option (List (Nat × af_S)) := match G.2.2.2.2.2.2.2.2.find? (fun q => q.1 == pc) with
  | none => af_plain G pc σ
  | some (_, c, i) => match σ with
    | (n, L, st, T, N) => match af_mat G.2.1 [((c, i), (0, []))] n T N with
      | none => none
      | some (n1, T1, N1) => match af_getT T1 c i with
        | none => none
        | some f => match af_iv N1 f with
          | none => none
          | some (a, b) => if a < b ∧ b - a ≤ 20 then some (af_spl pc n1 L st T1 N1 f (b - a + 1).toNat a) else af_plain G pc (n1, L, st, T1, N1)
def af_lex (N : af_N) : af_U → af_U → Bool
  | (k, s, f) :: O, (k', s', f') :: W => if s == 0 && s' == 0 then (decide (k' < k) || (decide (k' = k) && af_lex N O W))
      else if s == 1 && s' == 1 then (match af_low N f' f with
        | none => false
        | some D => decide (1 ≤ k - k' + D) || (decide (0 ≤ k - k' + D) && af_lex N O W))
      else if s == 2 && s' == 2 then (match af_low N f f' with
        | none => false
        | some D => decide (1 ≤ k - k' + D) || (decide (0 ≤ k - k' + D) && af_lex N O W))
      else false
  | _, _ => false
def af_sU (g : Nat → Option af_F) : af_U → Option af_U
  | [] => some []
  | (k, s, f) :: U => match af_sb g f with
    | none => none
    | some f' => match af_sU g U with
      | none => none
      | some U' => some ((k, s, f') :: U')
def af_pos (N : af_N) (U : af_U) : Bool := U.all (fun q => match af_iv N q.2.2 with
  | none => false
  | some (a, b) => if q.2.1 == 0 then decide (0 ≤ q.1) && decide (q.1 < 1099511627776) else if q.2.1 == 1 then decide (0 ≤ q.1 - b) && decide (q.1 - a < 1099511627776) else decide (0 ≤ q.1 + a) && decide (q.1 + b < 1099511627776))
/-- arriving at a cut: one of its patterns takes the state, with a lesser measure -/
def af_cut (E : Nat) (old : Option af_U) (pc : Nat) (σ : af_S) (CL : List (Nat × af_S × af_U)) : Bool := CL.any (fun q => q.1 == pc && (match af_mS E σ q.2.1 with
  | none => false
  | some θ => (match old with
    | none => true
    | some O => (match af_sU (af_th E θ) q.2.2 with
      | none => false
      | some U => af_lex σ.2.2.2.2 O U))))
def af_isCut (CL : List (Nat × af_S × af_U)) (pc : Nat) : Bool := CL.any (fun q => q.1 == pc)
def af_run : Nat → af_G → Option af_U → Nat × af_S → Bool
  | 0, _, _, _ => false
  | n + 1, G, old, (pc, σ) => match af_next G pc σ with
    | none => false
    | some R => R.all (fun q => if af_isCut G.2.2.2.2.2.2.1 q.1 = true then af_cut G.2.2.2.1 old q.1 q.2 G.2.2.2.2.2.2.1 else af_run n G old q)
def lv_argsA : Nat → List af_V → af_L
  | _, [] => []
  | i, v :: vs => (i, v) :: lv_argsA (if af_isLong v then i + 2 else i + 1) vs
/-- all of a method: from its start, and from each cut -/
def af_meth (fuel : Nat) (G : af_G) (pre : af_Q) : Bool :=
  af_run fuel G none (0, pre.1, lv_argsA 0 pre.2.1, [], pre.2.2.1, pre.2.2.2) && G.2.2.2.2.2.2.1.all (fun q => af_pos q.2.1.2.2.2.2 q.2.2 && af_run fuel G (some q.2.2) (q.1, q.2.1))
end
section
/-! ===== what the abstract states mean ===== -/
def af_ev (ρ : Nat → Int) (f : af_F) : Int := f.1 + (f.2.map ρ).sum
def af_wf (n : Nat) (f : af_F) : Prop := ∀ v ∈ f.2, v < n
def af_ag (n : Nat) (ρ ρ' : Nat → Int) : Prop := ∀ v, v < n → ρ' v = ρ v
def af_val (n : Nat) (ρ : Nat → Int) (a : af_V) (v : Value) : Prop := match a with
  | .inl f => af_wf n f ∧ ∃ x : Int32, v = .int x ∧ x.toInt = af_ev ρ f
  | .inr (.inl k) => v = .ref k
  | .inr (.inr _) => ∃ x, v = .long x
def af_cloc (e : pi_E) (i : Nat) : Option Value := match e with
  | .inr (_, fs) => fs[i]?
  | .inl (_, n, .inl f) => if i < n then some (.int (f i)) else none
  | .inl (_, n, .inr (.inl f)) => if i < n then some (.long (f i)) else none
  | _ => none
def af_wloc (w : pi_W) (c i : Nat) : Option Value := match w[c]? with
  | none => none
  | some e => af_cloc e i
/-- the sign at which the model's reader stands -/
def af_peek (w : pi_W) : Int32 := match af_wloc w 61 4, af_wloc w 61 3 with
  | some (.int p), some (.int z) => if p < z then (match af_wloc w 62 p.toNatClampNeg with
    | some (.int b) => b &&& 255
    | _ => 0) else -1
  | _, _ => 0
def af_loc (w : pi_W) (c i : Nat) : Option Value := if c = af_virt then (if i = 0 then some (.int (af_peek w)) else none) else af_wloc w c i
def af_okF (ft : Nat ⊕ (Int × Int) ⊕ Unit) (v : Value) : Prop := match ft with
  | .inl k => v = .ref k
  | .inr (.inl (lo, hi)) => ∃ x : Int32, v = .int x ∧ lo ≤ x.toInt ∧ x.toInt ≤ hi
  | .inr (.inr _) => ∃ x, v = .long x
def af_okA (t n : Nat) (S : List (Nat × Int × Int)) (e : pi_E) : Prop := if t = 2 then ∃ f, e = .inl (2, n, .inr (.inl f)) else t < 4 ∧ ∃ f : Nat → Int32, e = .inl (t, n, .inl f) ∧ ∀ i, i < n → ∃ q, af_seg S i = some q ∧ q.1 ≤ (f i).toInt ∧ (f i).toInt ≤ q.2
def af_okC (c : af_C) (e : pi_E) : Prop := match c with
  | .inl (t, n, S) => af_okA t n S e
  | .inr (ci, fts) => ∃ fs, e = .inr (ci, fs) ∧ fs.length = fts.length ∧ ∀ (j : Nat) (ft : Nat ⊕ (Int × Int) ⊕ Unit), fts[j]? = some ft → ∃ v, fs[j]? = some v ∧ af_okF ft v
def af_Conf (Sh : af_H) (w : pi_W) : Prop := w.length = Sh.length ∧ Sh.length ≤ 1000 ∧ ∀ (k : Nat) (c : af_C), Sh[k]? = some c → ∃ e, w[k]? = some e ∧ af_okC c e
def af_Fr (M : af_M) (w w' : pi_W) : Prop := ∀ c i, af_cov M c i i = false → af_wloc w' c i = af_wloc w c i
def af_Lo (n : Nat) (ρ : Nat → Int) (L : af_L) (lv : pi_L) : Prop := ∀ e ∈ L, ∃ v, pi_get lv e.1 = some v ∧ af_val n ρ e.2 v
def af_St (n : Nat) (ρ : Nat → Int) : List af_V → List Value → Prop
  | [], [] => True
  | a :: as, v :: vs => af_val n ρ a v ∧ af_St n ρ as vs
  | _, _ => False
def af_Sl (n : Nat) (ρ : Nat → Int) (T : af_T) (w : pi_W) : Prop := ∀ e ∈ T, af_wf n e.2 ∧ ∃ x : Int32, af_loc w e.1.1 e.1.2 = some (.int x) ∧ x.toInt = af_ev ρ e.2
def af_Og (ρ : Nat → Int) (Sh : af_H) (e : Nat × Nat × af_F) : Prop := ∃ m S q, Sh[e.2.1]? = some (.inl (0, m, S)) ∧ 0 ≤ af_ev ρ e.2.2 ∧ af_seg S (af_ev ρ e.2.2).toNat = some q ∧ q.1 ≤ ρ e.1 ∧ ρ e.1 ≤ q.2
def af_Kn (n : Nat) (ρ : Nat → Int) (Sh : af_H) (N : af_N) : Prop := (∀ e ∈ N.1, e.1 < n ∧ e.2.1 ≤ ρ e.1 ∧ ρ e.1 ≤ e.2.2) ∧ (∀ e ∈ N.2.1, e.1 < n ∧ e.2.1 < n ∧ e.2.2 ≤ ρ e.1 - ρ e.2.1) ∧ ∀ e ∈ N.2.2, e.1 < n ∧ af_wf n e.2.2 ∧ af_Og ρ Sh e
def af_Sat (Sh : af_H) (ρ : Nat → Int) (σ : af_S) (s : pi_S) : Prop := af_Lo σ.1 ρ σ.2.1 s.2.1 ∧ af_St σ.1 ρ σ.2.2.1 s.2.2.1 ∧ af_Conf Sh s.2.2.2 ∧ af_Sl σ.1 ρ σ.2.2.2.1 s.2.2.2 ∧ af_Kn σ.1 ρ Sh σ.2.2.2.2
/-- where a step comes to -/
def af_Ok (Sh : af_H) (M : af_M) (R : List (Nat × af_S)) (n : Nat) (ρ : Nat → Int) (w : pi_W) (s : pi_S) : Prop := af_Fr M w s.2.2.2 ∧ ∃ q ∈ R, q.1 = s.1 ∧ n ≤ q.2.1 ∧ ∃ ρ', af_ag n ρ ρ' ∧ af_Sat Sh ρ' q.2 s
theorem af_Fr.rf (M : af_M) (w : pi_W) : af_Fr M w w := fun _ _ _ => rfl
theorem af_Fr.tr {M : af_M} {w w1 w2 : pi_W} (h1 : af_Fr M w w1) (h2 : af_Fr M w1 w2) : af_Fr M w w2 := fun c i h => (h2 c i h).trans (h1 c i h)
theorem af_ag.rf (n : Nat) (ρ : Nat → Int) : af_ag n ρ ρ := fun _ _ => rfl
theorem af_ag.tr {n n' : Nat} {ρ ρ1 ρ2 : Nat → Int} (h1 : af_ag n ρ ρ1) (hn : n ≤ n') (h2 : af_ag n' ρ1 ρ2) : af_ag n ρ ρ2 := fun v hv => (h2 v (Nat.lt_of_lt_of_le hv hn)).trans (h1 v hv)
theorem af_ev_ag {n : Nat} {ρ ρ' : Nat → Int} {f : af_F} (h : af_wf n f) (ha : af_ag n ρ ρ') : af_ev ρ' f = af_ev ρ f := by
  unfold af_ev
  rw [List.map_congr_left (fun v hv => ha v (h v hv))]
theorem af_wf.mono {n n' : Nat} {f : af_F} (h : af_wf n f) (hn : n ≤ n') : af_wf n' f := fun v hv => Nat.lt_of_lt_of_le (h v hv) hn
theorem af_val.ag {n n' : Nat} {ρ ρ' : Nat → Int} {a : af_V} {v : Value} (h : af_val n ρ a v) (hn : n ≤ n') (ha : af_ag n ρ ρ') : af_val n' ρ' a v := by
  match a, h with
  | .inl f, ⟨h1, x, h2, h3⟩ => exact ⟨h1.mono hn, x, h2, by rw [af_ev_ag h1 ha]; exact h3⟩
  | .inr (.inl k), h => exact h
  | .inr (.inr _), h => exact h
theorem af_Lo.ag {n n' : Nat} {ρ ρ' : Nat → Int} {L : af_L} {lv : pi_L} (h : af_Lo n ρ L lv) (hn : n ≤ n') (ha : af_ag n ρ ρ') : af_Lo n' ρ' L lv := fun e he => by
  obtain ⟨v, h1, h2⟩ := h e he
  exact ⟨v, h1, h2.ag hn ha⟩
theorem af_St.ag {n n' : Nat} {ρ ρ' : Nat → Int} (hn : n ≤ n') (ha : af_ag n ρ ρ') : ∀ {as : List af_V} {vs : List Value}, af_St n ρ as vs → af_St n' ρ' as vs
  | [], [], _ => trivial
  | _ :: _, _ :: _, ⟨h1, h2⟩ => ⟨h1.ag hn ha, af_St.ag hn ha h2⟩
theorem af_Sl.ag {n n' : Nat} {ρ ρ' : Nat → Int} {T : af_T} {w : pi_W} (h : af_Sl n ρ T w) (hn : n ≤ n') (ha : af_ag n ρ ρ') : af_Sl n' ρ' T w := fun e he => by
  obtain ⟨h0, x, h1, h2⟩ := h e he
  exact ⟨h0.mono hn, x, h1, by rw [af_ev_ag h0 ha]; exact h2⟩
theorem af_Kn.ag {n n' : Nat} {ρ ρ' : Nat → Int} {Sh : af_H} {N : af_N} (h : af_Kn n ρ Sh N) (hn : n ≤ n') (ha : af_ag n ρ ρ') : af_Kn n' ρ' Sh N := by
  obtain ⟨h1, h2, h3⟩ := h
  refine ⟨fun e he => ?_, fun e he => ?_, fun e he => ?_⟩
  · obtain ⟨a, b⟩ := h1 e he
    exact ⟨Nat.lt_of_lt_of_le a hn, by rw [ha _ a]; exact b⟩
  · obtain ⟨a, b, d⟩ := h2 e he
    exact ⟨Nat.lt_of_lt_of_le a hn, Nat.lt_of_lt_of_le b hn, by rw [ha _ a, ha _ b]; exact d⟩
  · obtain ⟨a, b, m, S, q, d1, d2, d3, d4⟩ := h3 e he
    exact ⟨Nat.lt_of_lt_of_le a hn, b.mono hn, m, S, q, d1, by rw [af_ev_ag b ha]; exact d2, by rw [af_ev_ag b ha]; exact d3, by rw [ha _ a]; exact d4⟩
def af_upd (ρ : Nat → Int) (n : Nat) (x : Int) : Nat → Int := fun v => if v = n then x else ρ v
theorem af_upd_ag (ρ : Nat → Int) (n : Nat) (x : Int) : af_ag n ρ (af_upd ρ n x) := fun v hv => by
  unfold af_upd
  rw [if_neg (Nat.ne_of_lt hv)]
theorem af_upd_at (ρ : Nat → Int) (n : Nat) (x : Int) : af_upd ρ n x n = x := if_pos rfl
theorem af_ev_c (ρ : Nat → Int) (k : Int) : af_ev ρ (k, []) = k := by simp [af_ev]
theorem af_ev_1 (ρ : Nat → Int) (k : Int) (v : Nat) : af_ev ρ (k, [v]) = k + ρ v := by simp [af_ev]
theorem af_wf_c (n : Nat) (k : Int) : af_wf n (k, []) := fun v hv => by cases hv
theorem af_wf_1 (n : Nat) (k : Int) : af_wf (n + 1) (k, [n]) := fun v hv => by
  rcases List.mem_singleton.mp hv with rfl
  exact Nat.lt_succ_self _
/-- bounds of forms -/
theorem af_lookL_mem : ∀ {N : List (Nat × Int × Int)} {v : Nat} {q : Int × Int}, af_lookL N v = some q → (v, q) ∈ N
  | [], _, _, h => by cases h
  | (u, p) :: N, v, q, h => by
    unfold af_lookL at h
    split at h
    · rename_i hu
      cases h
      have : u = v := by simpa using hu
      subst this
      exact List.mem_cons_self
    · exact List.mem_cons_of_mem _ (af_lookL_mem h)
theorem af_look_ok {n : Nat} {ρ : Nat → Int} {Sh : af_H} {N : af_N} (hK : af_Kn n ρ Sh N) {v : Nat} {a b : Int} (h : af_look N v = some (a, b)) : a ≤ ρ v ∧ ρ v ≤ b := (hK.1 _ (af_lookL_mem h)).2
theorem af_ivs_ok {n : Nat} {ρ : Nat → Int} {Sh : af_H} {N : af_N} (hK : af_Kn n ρ Sh N) : ∀ {vs : List Nat} {a b : Int}, af_ivs N vs = some (a, b) → a ≤ (vs.map ρ).sum ∧ (vs.map ρ).sum ≤ b
  | [], a, b, h => by
    cases h
    exact ⟨Int.le_refl _, Int.le_refl _⟩
  | v :: vs, a, b, h => by
    unfold af_ivs at h
    split at h
    · cases h
    · rename_i a1 b1 h1
      split at h
      · cases h
      · rename_i c d h2
        cases h
        have q1 := af_look_ok hK h1
        have q2 := af_ivs_ok hK h2
        rw [List.map_cons, List.sum_cons]
        omega
theorem af_iv_ok {n : Nat} {ρ : Nat → Int} {Sh : af_H} {N : af_N} (hK : af_Kn n ρ Sh N) {f : af_F} {a b : Int} (h : af_iv N f = some (a, b)) : a ≤ af_ev ρ f ∧ af_ev ρ f ≤ b := by
  unfold af_iv at h
  split at h
  · cases h
  · rename_i c d h1
    cases h
    have q := af_ivs_ok hK h1
    unfold af_ev
    omega
theorem af_Kn.bn {n : Nat} {ρ : Nat → Int} {Sh : af_H} {N : af_N} (hK : af_Kn n ρ Sh N) {v : Nat} {lo hi : Int} (hv : v < n) (h1 : lo ≤ ρ v) (h2 : ρ v ≤ hi) : af_Kn n ρ Sh (af_bn v lo hi N) := by
  refine ⟨fun e he => ?_, hK.2⟩
  rcases List.mem_cons.mp he with rfl | he
  · exact ⟨hv, h1, h2⟩
  · exact hK.1 e he
theorem af_i32 (x : Int32) : af_lo ≤ x.toInt ∧ x.toInt ≤ af_hi := by
  have h1 := Int32.le_toInt x
  have h2 := Int32.toInt_lt x
  unfold af_lo af_hi
  omega
/-- what an operation gives -/
def af_Rs (n : Nat) (ρ : Nat → Int) (r : af_R) (x : Int32) : Prop := match r with
  | .inl f => af_wf n f ∧ x.toInt = af_ev ρ f
  | .inr (lo, hi) => lo ≤ x.toInt ∧ x.toInt ≤ hi
theorem af_Rs.full (n : Nat) (ρ : Nat → Int) (x : Int32) : af_Rs n ρ af_full x := af_i32 x
section AFO
variable {Sh : af_H} {M : af_M} {n : Nat} {ρ : Nat → Int} {L : af_L} {as : List af_V} {T : af_T} {N : af_N} {pc pc' : Nat} {lv : pi_L} {vs : List Value} {w : pi_W}
theorem af_Ok.one {q : Nat × af_S} {s : pi_S} (hF : af_Fr M w s.2.2.2) (hpc : q.1 = s.1) (hn : n ≤ q.2.1) (hS : ∃ ρ', af_ag n ρ ρ' ∧ af_Sat Sh ρ' q.2 s) : af_Ok Sh M [q] n ρ w s := ⟨hF, q, List.mem_cons_self, hpc, hn, hS⟩
theorem af_Ok.push {a : af_V} {v : Value} (hL : af_Lo n ρ L lv) (hs : af_St n ρ as vs) (hC : af_Conf Sh w) (hT : af_Sl n ρ T w) (hK : af_Kn n ρ Sh N) (hv : af_val n ρ a v) : af_Ok Sh M [(pc', n, L, a :: as, T, N)] n ρ w (pc', lv, v :: vs, w) :=
  af_Ok.one (af_Fr.rf M w) rfl (Nat.le_refl _) ⟨ρ, af_ag.rf _ _, hL, ⟨hv, hs⟩, hC, hT, hK⟩
theorem af_Ok.same (hL : af_Lo n ρ L lv) (hs : af_St n ρ as vs) (hC : af_Conf Sh w) (hT : af_Sl n ρ T w) (hK : af_Kn n ρ Sh N) : af_Ok Sh M [(pc', n, L, as, T, N)] n ρ w (pc', lv, vs, w) :=
  af_Ok.one (af_Fr.rf M w) rfl (Nat.le_refl _) ⟨ρ, af_ag.rf _ _, hL, hs, hC, hT, hK⟩
theorem af_fresh {lo hi : Int} {x : Int32} (hL : af_Lo n ρ L lv) (hs : af_St n ρ as vs) (hC : af_Conf Sh w) (hT : af_Sl n ρ T w) (hK : af_Kn n ρ Sh N) (h1 : lo ≤ x.toInt) (h2 : x.toInt ≤ hi) : af_Sat Sh (af_upd ρ n x.toInt) (n + 1, L, .inl (0, [n]) :: as, T, af_bn n lo hi N) (pc', lv, .int x :: vs, w) := by
  have ha := af_upd_ag ρ n x.toInt
  have hn := Nat.le_succ n
  refine ⟨hL.ag hn ha, ⟨⟨af_wf_1 n 0, x, rfl, ?_⟩, hs.ag hn ha⟩, hC, hT.ag hn ha, (hK.ag hn ha).bn (Nat.lt_succ_self n) ?_ ?_⟩
  · rw [af_ev_1, af_upd_at]; omega
  · rw [af_upd_at]; exact h1
  · rw [af_upd_at]; exact h2
theorem af_Ok.put {r : af_R} {x : Int32} (hL : af_Lo n ρ L lv) (hs : af_St n ρ as vs) (hC : af_Conf Sh w) (hT : af_Sl n ρ T w) (hK : af_Kn n ρ Sh N) (hr : af_Rs n ρ r x) : af_Ok Sh M (af_put pc' n L as T N r) n ρ w (pc', lv, .int x :: vs, w) := by
  match r, hr with
  | .inl f, hr => exact af_Ok.push hL hs hC hT hK ⟨hr.1, x, rfl, hr.2⟩
  | .inr (lo, hi), hr => exact af_Ok.one (af_Fr.rf M w) rfl (Nat.le_succ n) ⟨_, af_upd_ag ρ n x.toInt, af_fresh hL hs hC hT hK hr.1 hr.2⟩
end AFO
end
section
/-! ===== the operations keep what they say ===== -/
theorem af_bm {x : Int} (h1 : af_lo ≤ x) (h2 : x ≤ af_hi) : x.bmod (2 ^ 32) = x := by
  unfold af_lo at h1
  unfold af_hi at h2
  rw [Int.bmod_def]
  split <;> omega
theorem af_ev_add (ρ : Nat → Int) (f g : af_F) : af_ev ρ (f.1 + g.1, f.2 ++ g.2) = af_ev ρ f + af_ev ρ g := by
  simp only [af_ev, List.map_append, List.sum_append]
  omega
theorem af_erase_ok {ρ : Nat → Int} : ∀ {us : List Nat} {v : Nat} {us' : List Nat}, af_erase us v = some us' → (us.map ρ).sum = ρ v + (us'.map ρ).sum ∧ ∀ u ∈ us', u ∈ us
  | [], _, _, h => by cases h
  | u :: us, v, us', h => by
    unfold af_erase at h
    split at h
    · rename_i hu
      have hu : u = v := by simpa using hu
      cases h
      subst hu
      exact ⟨by simp, fun q hq => List.mem_cons_of_mem _ hq⟩
    · split at h
      · cases h
      · rename_i us1 h1
        cases h
        obtain ⟨a, b⟩ := af_erase_ok (ρ := ρ) h1
        refine ⟨?_, fun q hq => ?_⟩
        · simp only [List.map_cons, List.sum_cons]
          omega
        · rcases List.mem_cons.mp hq with rfl | hq
          · exact List.mem_cons_self
          · exact List.mem_cons_of_mem _ (b q hq)
theorem af_diff_ok {ρ : Nat → Int} : ∀ {vs us us' : List Nat}, af_diff us vs = some us' → (us.map ρ).sum = (vs.map ρ).sum + (us'.map ρ).sum ∧ ∀ u ∈ us', u ∈ us
  | [], us, us', h => by
    unfold af_diff at h
    cases h
    exact ⟨by simp, fun q hq => hq⟩
  | v :: vs, us, us', h => by
    unfold af_diff at h
    split at h
    · cases h
    · rename_i us1 h1
      obtain ⟨a, b⟩ := af_erase_ok (ρ := ρ) h1
      obtain ⟨a2, b2⟩ := af_diff_ok (ρ := ρ) h
      refine ⟨?_, fun q hq => b q (b2 q hq)⟩
      simp only [List.map_cons, List.sum_cons]
      omega
theorem af_less_ok {ρ : Nat → Int} {f g k : af_F} (h : af_less f g = some k) : af_ev ρ k = af_ev ρ f - af_ev ρ g ∧ ∀ n, af_wf n f → af_wf n k := by
  unfold af_less at h
  split at h
  · cases h
  · rename_i us h1
    cases h
    obtain ⟨a, b⟩ := af_diff_ok (ρ := ρ) h1
    refine ⟨?_, fun n hn v hv => hn v (b v hv)⟩
    simp only [af_ev]
    omega
section AFB
variable {Sh : af_H} {n : Nat} {ρ : Nat → Int} {N : af_N} {f g : af_F} {x y : Int32}
theorem af_wf_app (hf : af_wf n f) (hg : af_wf n g) (k : Int) : af_wf n (k, f.2 ++ g.2) := fun v hv => (List.mem_append.mp hv).elim (hf v) (hg v)
theorem af_add_ok (hK : af_Kn n ρ Sh N) (hf : af_wf n f) (hg : af_wf n g) (hx : x.toInt = af_ev ρ f) (hy : y.toInt = af_ev ρ g) : af_Rs n ρ (af_add N f g) (x + y) := by
  unfold af_add
  split
  · rename_i a b c d h1 h2
    have q1 := af_iv_ok hK h1
    have q2 := af_iv_ok hK h2
    split
    · rename_i hr
      have e : (x + y).toInt = x.toInt + y.toInt := by
        rw [Int32.toInt_add]
        exact af_bm (by omega) (by omega)
      split
      · exact ⟨af_wf_app hf hg _, by rw [af_ev_add]; omega⟩
      · exact ⟨by omega, by omega⟩
    · exact af_Rs.full n ρ _
  · exact af_Rs.full n ρ _
theorem af_subt_ok (hK : af_Kn n ρ Sh N) (hf : af_wf n f) (hx : x.toInt = af_ev ρ f) (hy : y.toInt = af_ev ρ g) : af_Rs n ρ (af_subt N f g) (x - y) := by
  unfold af_subt
  split
  · rename_i a b c d h1 h2
    have q1 := af_iv_ok hK h1
    have q2 := af_iv_ok hK h2
    split
    · rename_i hr
      have e : (x - y).toInt = x.toInt - y.toInt := by
        rw [Int32.toInt_sub]
        exact af_bm (by omega) (by omega)
      split
      · rename_i k hk
        have h3 := af_less_ok (ρ := ρ) hk
        exact ⟨h3.2 n hf, by rw [h3.1]; omega⟩
      · exact ⟨by omega, by omega⟩
    · exact af_Rs.full n ρ _
  · exact af_Rs.full n ρ _
theorem af_mulb {a b c d u v : Int} (h1 : a ≤ u) (h2 : u ≤ b) (h3 : c ≤ v) (h4 : v ≤ d) : af_min4 (a * c) (a * d) (b * c) (b * d) ≤ u * v ∧ u * v ≤ af_max4 (a * c) (a * d) (b * c) (b * d) := by
  have ha : (a * c ≤ a * v ∧ a * v ≤ a * d) ∨ (a * d ≤ a * v ∧ a * v ≤ a * c) := by
    rcases Int.le_total 0 a with h | h
    · exact Or.inl ⟨Int.mul_le_mul_of_nonneg_left h3 h, Int.mul_le_mul_of_nonneg_left h4 h⟩
    · exact Or.inr ⟨Int.mul_le_mul_of_nonpos_left h h4, Int.mul_le_mul_of_nonpos_left h h3⟩
  have hb : (b * c ≤ b * v ∧ b * v ≤ b * d) ∨ (b * d ≤ b * v ∧ b * v ≤ b * c) := by
    rcases Int.le_total 0 b with h | h
    · exact Or.inl ⟨Int.mul_le_mul_of_nonneg_left h3 h, Int.mul_le_mul_of_nonneg_left h4 h⟩
    · exact Or.inr ⟨Int.mul_le_mul_of_nonpos_left h h4, Int.mul_le_mul_of_nonpos_left h h3⟩
  have hv : (a * v ≤ u * v ∧ u * v ≤ b * v) ∨ (b * v ≤ u * v ∧ u * v ≤ a * v) := by
    rcases Int.le_total 0 v with h | h
    · exact Or.inl ⟨Int.mul_le_mul_of_nonneg_right h1 h, Int.mul_le_mul_of_nonneg_right h2 h⟩
    · exact Or.inr ⟨Int.mul_le_mul_of_nonpos_right h2 h, Int.mul_le_mul_of_nonpos_right h1 h⟩
  unfold af_min4 af_max4
  dsimp only
  generalize a * c = p1 at *
  generalize a * d = p2 at *
  generalize b * c = p3 at *
  generalize b * d = p4 at *
  generalize a * v = p5 at *
  generalize b * v = p6 at *
  generalize u * v = p7 at *
  constructor
  · repeat' split
    all_goals omega
  · repeat' split
    all_goals omega
theorem af_rng_ok {lo hi : Int} (h1 : lo ≤ x.toInt) (h2 : x.toInt ≤ hi) : af_Rs n ρ (af_rng lo hi) x := by
  unfold af_rng
  split
  · exact ⟨h1, h2⟩
  · exact af_Rs.full n ρ x
theorem af_mul_ok (hK : af_Kn n ρ Sh N) (hx : x.toInt = af_ev ρ f) (hy : y.toInt = af_ev ρ g) : af_Rs n ρ (af_mul N f g) (x * y) := by
  unfold af_mul
  split
  · rename_i a b c d h1 h2
    have q1 := af_iv_ok hK h1
    have q2 := af_iv_ok hK h2
    rw [← hx] at q1
    rw [← hy] at q2
    have q3 := af_mulb q1.1 q1.2 q2.1 q2.2
    have e := Int32.toInt_mul x y
    split
    · rename_i hr
      obtain ⟨r1, r2, r3, r4⟩ := hr
      have e1 : x.toInt = a := by omega
      have e2 : y.toInt = c := by omega
      refine ⟨af_wf_c n _, ?_⟩
      rw [af_ev_c, e, e1, e2]
      exact af_bm r3 r4
    · unfold af_rng
      split
      · rename_i hr
        have e3 : (x * y).toInt = x.toInt * y.toInt := by
          rw [e]
          exact af_bm (Int.le_trans hr.1 q3.1) (Int.le_trans q3.2 hr.2)
        exact ⟨by rw [e3]; exact q3.1, by rw [e3]; exact q3.2⟩
      · exact af_Rs.full n ρ _
  · exact af_Rs.full n ρ _
theorem af_tn (x : Int32) : x.toInt = if 2 * x.toBitVec.toNat < 2 ^ 32 then (x.toBitVec.toNat : Int) else (x.toBitVec.toNat : Int) - 2 ^ 32 := by
  show x.toBitVec.toInt = _
  rw [BitVec.toInt_eq_toNat_cond]
  simp
theorem af_tn0 {x : Int32} (h : 0 ≤ x.toInt) : x.toInt = (x.toBitVec.toNat : Int) ∧ x.toBitVec.toNat < 2 ^ 31 := by
  have h1 := af_tn x
  have h2 := x.toBitVec.isLt
  split at h1 <;> omega
theorem af_tn1 {x : Int32} (h : x.toBitVec.toNat < 2 ^ 31) : x.toInt = (x.toBitVec.toNat : Int) := by
  have h1 := af_tn x
  split at h1 <;> omega
theorem af_and_r (x y : Int32) (h : 0 ≤ y.toInt) : 0 ≤ (x &&& y).toInt ∧ (x &&& y).toInt ≤ y.toInt := by
  obtain ⟨h1, h2⟩ := af_tn0 h
  have h3 : (x &&& y).toBitVec.toNat ≤ y.toBitVec.toNat := by
    rw [Int32.toBitVec_and, BitVec.toNat_and]
    exact Nat.and_le_right
  have h4 := af_tn1 (x := x &&& y) (by omega)
  omega
theorem af_and_l (x y : Int32) (h : 0 ≤ x.toInt) : 0 ≤ (x &&& y).toInt ∧ (x &&& y).toInt ≤ x.toInt := by
  obtain ⟨h1, h2⟩ := af_tn0 h
  have h3 : (x &&& y).toBitVec.toNat ≤ x.toBitVec.toNat := by
    rw [Int32.toBitVec_and, BitVec.toNat_and]
    exact Nat.and_le_left
  have h4 := af_tn1 (x := x &&& y) (by omega)
  omega
theorem af_and_ok (hK : af_Kn n ρ Sh N) (hx : x.toInt = af_ev ρ f) (hy : y.toInt = af_ev ρ g) : af_Rs n ρ (af_and N f g) (x &&& y) := by
  unfold af_and
  split
  · rename_i a b c d h1 h2
    have q1 := af_iv_ok hK h1
    have q2 := af_iv_ok hK h2
    split
    · have r := af_and_r x y (by omega)
      split
      · have r2 := af_and_l x y (by omega)
        refine ⟨r.1, ?_⟩
        split <;> omega
      · exact ⟨r.1, by omega⟩
    · split
      · have r2 := af_and_l x y (by omega)
        exact ⟨r2.1, by omega⟩
      · exact af_Rs.full n ρ _
  · exact af_Rs.full n ρ _
theorem af_rem_ok (hK : af_Kn n ρ Sh N) (hx : x.toInt = af_ev ρ f) (hy : y.toInt = af_ev ρ g) {r : af_R} (h : af_rem N f g = some r) : ¬ y = 0 ∧ af_Rs n ρ r (x - x / y * y) := by
  unfold af_rem at h
  split at h
  · rename_i a b c d h1 h2
    have q1 := af_iv_ok hK h1
    have q2 := af_iv_ok hK h2
    split at h
    · rename_i hc
      have hy0 : ¬ y = 0 := by
        rintro rfl
        rw [Int32.toInt_zero] at hy
        omega
      refine ⟨hy0, ?_⟩
      split at h
      · cases h
        have nx : ¬ x < 0 := by rw [Int32.lt_iff_toInt_lt, Int32.toInt_zero]; omega
        have ny : ¬ y < 0 := by rw [Int32.lt_iff_toInt_lt, Int32.toInt_zero]; omega
        obtain ⟨i, hi, rfl⟩ := nI_of nx
        obtain ⟨j, hj, rfl⟩ := nI_of ny
        rw [nI_toInt hi] at hx
        rw [nI_toInt hj] at hy
        have hj0 : 0 < j := by omega
        rw [pk_rem hi hj0 hj]
        have hm : i % j < j := Nat.mod_lt _ hj0
        have hm2 : i % j ≤ i := Nat.mod_le _ _
        have e := nI_toInt (n := i % j) (by omega)
        refine ⟨by omega, ?_⟩
        split <;> omega
      · cases h
        exact af_Rs.full n ρ _
    · cases h
  · cases h
theorem af_ushr_ok (hK : af_Kn n ρ Sh N) (hy : y.toInt = af_ev ρ g) : af_Rs n ρ (af_ushr N g) ((x.toUInt32 >>> (y.toUInt32 &&& Int32.toUInt32 31)).toInt32) := by
  unfold af_ushr
  split
  · rename_i c d h2
    have q2 := af_iv_ok hK h2
    split
    · rename_i hc
      have e : y = 8 := by
        apply Int32.toInt_inj.mp
        have : (8 : Int32).toInt = 8 := by decide
        omega
      subst e
      have h3 := pk_ushr x 8 8 (by decide)
      have h4 := x.toBitVec.isLt
      have h5 := af_tn1 (x := (x.toUInt32 >>> ((8 : Int32).toUInt32 &&& Int32.toUInt32 31)).toInt32) (by omega)
      exact ⟨by omega, by omega⟩
    · exact af_Rs.full n ρ _
  · exact af_Rs.full n ρ _
theorem af_clip_ok (hK : af_Kn n ρ Sh N) (hf : af_wf n f) {lo hi : Int} (h1 : lo ≤ af_ev ρ f) (h2 : af_ev ρ f ≤ hi) : ∃ N', af_clip N f lo hi = some N' ∧ af_Kn n ρ Sh N' := by
  unfold af_clip
  split
  · exact ⟨N, rfl, hK⟩
  · rename_i a b hq
    have q := af_iv_ok hK hq
    split
    · omega
    · split
      · exact ⟨N, rfl, hK⟩
      · split
        · rename_i v hv
          obtain ⟨c, vs⟩ := f
          dsimp only at hv
          subst hv
          rw [af_ev_1] at q h1 h2
          refine ⟨_, rfl, hK.bn (hf v List.mem_cons_self) ?_ ?_⟩
          · dsimp only
            split <;> omega
          · dsimp only
            split <;> omega
        · exact ⟨N, rfl, hK⟩
theorem af_two_ok (hK : af_Kn n ρ Sh N) (hf : af_wf n f) (hg : af_wf n g) {lo hi lo2 hi2 : Int} (h1 : lo ≤ af_ev ρ f) (h2 : af_ev ρ f ≤ hi) (h3 : lo2 ≤ af_ev ρ g) (h4 : af_ev ρ g ≤ hi2) : ∃ N', af_two N f lo hi g lo2 hi2 = some N' ∧ af_Kn n ρ Sh N' := by
  obtain ⟨N1, e1, k1⟩ := af_clip_ok hK hf h1 h2
  unfold af_two
  rw [e1]
  exact af_clip_ok k1 hg h3 h4
theorem af_cmp_ok (hK : af_Kn n ρ Sh N) (hf : af_wf n f) (hg : af_wf n g) (hx : x.toInt = af_ev ρ f) (hy : y.toInt = af_ev ρ g) {cd : ClassFile.Cond} (h : pi_cmp cd x y = true) : ∃ N', af_cmp N cd f g = some N' ∧ af_Kn n ρ Sh N' := by
  unfold af_cmp
  split
  · rename_i a b c d h1 h2
    have q1 := af_iv_ok hK h1
    have q2 := af_iv_ok hK h2
    cases cd
    · have h : x = y := of_decide_eq_true h
      subst h
      exact af_two_ok hK hf hg (by omega) (by omega) (by omega) (by omega)
    · have h : ¬ x = y := of_decide_eq_true h
      have hne : x.toInt ≠ y.toInt := fun e => h (Int32.toInt_inj.mp e)
      dsimp only
      split
      · split
        · exact af_clip_ok hK hf (by omega) (by omega)
        · split
          · exact af_clip_ok hK hf (by omega) (by omega)
          · exact ⟨N, rfl, hK⟩
      · split
        · split
          · exact af_clip_ok hK hg (by omega) (by omega)
          · split
            · exact af_clip_ok hK hg (by omega) (by omega)
            · exact ⟨N, rfl, hK⟩
        · exact ⟨N, rfl, hK⟩
    · have h : x < y := of_decide_eq_true h
      rw [Int32.lt_iff_toInt_lt] at h
      exact af_two_ok hK hf hg (by omega) (by omega) (by omega) (by omega)
    · have h : y ≤ x := of_decide_eq_true h
      rw [Int32.le_iff_toInt_le] at h
      exact af_two_ok hK hf hg (by omega) (by omega) (by omega) (by omega)
    · have h : y < x := of_decide_eq_true h
      rw [Int32.lt_iff_toInt_lt] at h
      exact af_two_ok hK hf hg (by omega) (by omega) (by omega) (by omega)
    · have h : x ≤ y := of_decide_eq_true h
      rw [Int32.le_iff_toInt_le] at h
      exact af_two_ok hK hf hg (by omega) (by omega) (by omega) (by omega)
  · exact ⟨N, rfl, hK⟩
theorem af_neg_ok {cd : ClassFile.Cond} (h : ¬ pi_cmp cd x y = true) : pi_cmp (af_neg cd) x y = true := by
  cases cd
  · exact decide_eq_true (fun e => h (decide_eq_true e))
  · refine decide_eq_true ?_
    rcases decEq x y with e | e
    · exact absurd (decide_eq_true e) h
    · exact e
  · refine decide_eq_true ?_
    have h : ¬ x < y := fun e => h (decide_eq_true e)
    rw [Int32.lt_iff_toInt_lt] at h
    rw [Int32.le_iff_toInt_le]
    omega
  · refine decide_eq_true ?_
    have h : ¬ y ≤ x := fun e => h (decide_eq_true e)
    rw [Int32.le_iff_toInt_le] at h
    rw [Int32.lt_iff_toInt_lt]
    omega
  · refine decide_eq_true ?_
    have h : ¬ y < x := fun e => h (decide_eq_true e)
    rw [Int32.lt_iff_toInt_lt] at h
    rw [Int32.le_iff_toInt_le]
    omega
  · refine decide_eq_true ?_
    have h : ¬ x ≤ y := fun e => h (decide_eq_true e)
    rw [Int32.le_iff_toInt_le] at h
    rw [Int32.lt_iff_toInt_lt]
    omega
end AFB
end
section
/-! ===== locals, slots, cells ===== -/
theorem af_getL_mem : ∀ {L : af_L} {i : Nat} {a : af_V}, af_getL L i = some a → (i, a) ∈ L
  | [], _, _, h => by cases h
  | (j, v) :: L, i, a, h => by
    unfold af_getL at h
    split at h
    · rename_i hj
      have hj : j = i := by simpa using hj
      cases h
      subst hj
      exact List.mem_cons_self
    · exact List.mem_cons_of_mem _ (af_getL_mem h)
theorem pi_get_cons (k j : Nat) (x : Value) (t : pi_L) : pi_get ((k, x) :: t) j = if k = j then some x else pi_get t j := by
  unfold pi_get
  rw [List.find?_cons]
  by_cases h : k = j
  · simp [h]
  · have h2 : (k == j) = false := by simpa using h
    rw [if_neg h]
    simp only [h2]
theorem pi_get_filter {p : Nat × Value → Bool} {j : Nat} {u : Value} (hp : p (j, u) = true) : ∀ {lv : pi_L}, pi_get lv j = some u → pi_get (lv.filter p) j = some u
  | [], h => h
  | (k, x) :: t, h => by
    rw [pi_get_cons] at h
    rw [List.filter_cons]
    by_cases hk : k = j
    · rw [if_pos hk] at h
      cases h
      subst hk
      rw [if_pos hp, pi_get_cons, if_pos rfl]
    · rw [if_neg hk] at h
      have ih := pi_get_filter hp h
      split
      · rw [pi_get_cons, if_neg hk]; exact ih
      · exact ih
theorem pi_get_set (lv : pi_L) (i : Nat) (v : Value) : pi_get (pi_set lv i v) i = some v := by
  unfold pi_set
  rw [pi_get_cons, if_pos rfl]
theorem pi_get_set_ne {lv : pi_L} {i j : Nat} {v u : Value} (h : pi_get lv j = some u) (hj : j ≠ i) (hc : ¬ (j + 1 = i ∧ u.category = 2)) : pi_get (pi_set lv i v) j = some u := by
  unfold pi_set
  rw [pi_get_cons, if_neg (fun e => hj e.symm)]
  refine pi_get_filter ?_ h
  have h1 : (j == i) = false := by simpa using hj
  have h2 : (j + 1 == i && u.category == 2) = false := by
    cases e : (j + 1 == i && u.category == 2) with
    | false => rfl
    | true =>
      rw [Bool.and_eq_true, beq_iff_eq, beq_iff_eq] at e
      exact absurd e hc
  dsimp only
  rw [h1, h2]
  rfl
theorem af_val.cat {n : Nat} {ρ : Nat → Int} {a : af_V} {v : Value} (h : af_val n ρ a v) : v.category = if af_isLong a = true then 2 else 1 := by
  match a, h with
  | .inl f, ⟨_, x, h2, _⟩ => subst h2; rfl
  | .inr (.inl k), h => cases h; rfl
  | .inr (.inr _), ⟨x, h⟩ => subst h; rfl
theorem af_setL_ok {n : Nat} {ρ : Nat → Int} {L : af_L} {lv : pi_L} (h : af_Lo n ρ L lv) (i : Nat) {a : af_V} {v : Value} (hv : af_val n ρ a v) : af_Lo n ρ (af_setL L i a) (pi_set lv i v) := by
  intro e he
  rcases List.mem_cons.mp he with rfl | he
  · exact ⟨v, pi_get_set lv i v, hv⟩
  · obtain ⟨he1, he2⟩ := List.mem_filter.mp he
    obtain ⟨u, hu, hw⟩ := h e he1
    simp only [Bool.and_eq_true, Bool.not_eq_true', beq_eq_false_iff_ne] at he2
    refine ⟨u, pi_get_set_ne hu he2.1 ?_, hw⟩
    rintro ⟨q1, q2⟩
    have hc := hw.cat
    cases hl : af_isLong e.2 with
    | false => rw [hl] at hc; simp at hc; omega
    | true =>
      have h3 := he2.2
      rw [hl] at h3
      simp at h3
      omega
theorem af_getT_mem : ∀ {T : af_T} {c i : Nat} {f : af_F}, af_getT T c i = some f → ((c, i), f) ∈ T
  | [], _, _, _, h => by cases h
  | ((a, j), g) :: T, c, i, f, h => by
    unfold af_getT at h
    split at h
    · rename_i hj
      rw [Bool.and_eq_true, beq_iff_eq, beq_iff_eq] at hj
      obtain ⟨rfl, rfl⟩ := hj
      cases h
      exact List.mem_cons_self
    · exact List.mem_cons_of_mem _ (af_getT_mem h)
theorem af_cov_in {M : af_M} {c a b i : Nat} (h : af_cov M c a b = true) (h1 : a ≤ i) (h2 : i ≤ b) : af_cov M c i i = true := by
  unfold af_cov at h ⊢
  obtain ⟨q, hq, hc⟩ := List.any_eq_true.mp h
  refine List.any_eq_true.mpr ⟨q, hq, ?_⟩
  simp only [Bool.and_eq_true, beq_iff_eq, Nat.ble_eq, Nat.blt_eq] at hc ⊢
  exact ⟨hc.1, by omega, by omega⟩
theorem af_peek_eq {w w' : pi_W} (h1 : ∀ i, i = 3 ∨ i = 4 → af_wloc w' 61 i = af_wloc w 61 i) (h2 : ∀ i, af_wloc w' 62 i = af_wloc w 62 i) : af_peek w' = af_peek w := by
  unfold af_peek
  rw [h1 4 (Or.inr rfl), h1 3 (Or.inl rfl)]
  split
  · rw [h2]
  · rfl
theorem af_Sl.drop {n : Nat} {ρ : Nat → Int} {T : af_T} {w w' : pi_W} {c a b : Nat} (h : af_Sl n ρ T w) (hw : ∀ c' i', ¬ (c' = c ∧ a ≤ i' ∧ i' ≤ b) → af_wloc w' c' i' = af_wloc w c' i') : af_Sl n ρ (af_drop T c a b) w' := by
  intro e he
  obtain ⟨he1, he2⟩ := List.mem_filter.mp he
  obtain ⟨h0, x, h1, h2⟩ := h e he1
  refine ⟨h0, x, ?_, h2⟩
  rw [Bool.and_eq_true, Bool.not_eq_true', Bool.not_eq_true'] at he2
  obtain ⟨p1, p2⟩ := he2
  unfold af_loc at h1 ⊢
  by_cases hv : e.1.1 = af_virt
  · rw [if_pos hv] at h1 ⊢
    have hd : af_dep c a b = false := by
      rw [Bool.and_eq_false_iff, beq_eq_false_iff_ne] at p2
      rcases p2 with p2 | p2
      · exact absurd hv p2
      · exact p2
    unfold af_dep at hd
    rw [Bool.or_eq_false_iff, beq_eq_false_iff_ne] at hd
    obtain ⟨d1, d2⟩ := hd
    have hp : af_peek w' = af_peek w := by
      refine af_peek_eq (fun i hi => hw 61 i ?_) (fun i => hw 62 i (fun q => d1 q.1.symm))
      rintro ⟨q1, q2, q3⟩
      subst q1
      simp only [beq_self_eq_true, Bool.true_and, Bool.and_eq_false_iff] at d2
      rcases d2 with d2 | d2
      · have : ¬ a ≤ 4 := fun q => by rw [Nat.ble_eq_true_of_le q] at d2; cases d2
        omega
      · have : ¬ 3 ≤ b := fun q => by rw [Nat.ble_eq_true_of_le q] at d2; cases d2
        omega
    rw [hp]
    exact h1
  · rw [if_neg hv] at h1 ⊢
    rw [hw]
    · exact h1
    · rintro ⟨q1, q2, q3⟩
      rw [Bool.and_eq_false_iff, Bool.and_eq_false_iff, beq_eq_false_iff_ne] at p1
      rcases p1 with p1 | p1 | p1
      · exact p1 q1
      · rw [Nat.ble_eq_true_of_le q2] at p1; cases p1
      · rw [Nat.ble_eq_true_of_le q3] at p1; cases p1
theorem af_wloc_set {w : pi_W} {a : Nat} {e0 e : pi_E} (h : w[a]? = some e0) (c i : Nat) : af_wloc (w.set a e) c i = if c = a then af_cloc e i else af_wloc w c i := by
  have hl : a < w.length := (List.getElem?_eq_some_iff.mp h).1
  unfold af_wloc
  by_cases hc : c = a
  · subst hc
    rw [if_pos rfl, List.getElem?_set_self hl]
  · rw [if_neg hc, List.getElem?_set_ne (fun q => hc q.symm)]
theorem af_fitS_ok : ∀ {S : List (Nat × Int × Int)} {a b : Nat} {lo hi : Int}, af_fitS S a b lo hi = true → ∀ i, a ≤ i → i ≤ b → ∀ q, af_seg S i = some q → q.1 ≤ lo ∧ hi ≤ q.2
  | [], _, _, _, _, h => by cases h
  | (e, l, hh) :: S, a, b, lo, hi, h => by
    intro i h1 h2 q hq
    unfold af_fitS at h
    unfold af_seg at hq
    split at h
    · rw [if_neg (by omega)] at hq
      exact af_fitS_ok h i h1 h2 q hq
    · simp only [Bool.and_eq_true, decide_eq_true_eq] at h
      split at hq
      · cases hq
        exact ⟨h.1, h.2.1⟩
      · have h3 := h.2.2
        rw [if_neg (by omega)] at h3
        exact af_fitS_ok h3 i (by omega) h2 q hq
theorem af_join_ok : ∀ {S : List (Nat × Int × Int)} {a b : Nat} {lo hi : Int}, af_join S a b = some (lo, hi) → ∀ i, a ≤ i → i ≤ b → ∀ q, af_seg S i = some q → lo ≤ q.1 ∧ q.2 ≤ hi
  | [], _, _, _, _, h => by cases h
  | (e, l, hh) :: S, a, b, lo, hi, h => by
    intro i h1 h2 q hq
    unfold af_join at h
    unfold af_seg at hq
    split at h
    · rw [if_neg (by omega)] at hq
      exact af_join_ok h i h1 h2 q hq
    · split at h
      · cases h
        rw [if_pos (by omega)] at hq
        cases hq
        exact ⟨Int.le_refl _, Int.le_refl _⟩
      · split at h
        · cases h
        · rename_i l2 h2' hj
          cases h
          split at hq
          · cases hq
            constructor
            · try dsimp only
              split <;> omega
            · try dsimp only
              split <;> omega
          · have r := af_join_ok hj i (by omega) h2 q hq
            constructor
            · try dsimp only
              split <;> omega
            · try dsimp only
              split <;> omega
theorem af_shf_ok {Sc S : List (Nat × Int × Int)} {k : Int} : ∀ {c j : Nat}, af_shf Sc S k c j = true → ∀ i, j ≤ i → i < j + c → 0 ≤ (i : Int) + k ∧ ∃ p q, af_seg Sc ((i : Int) + k).toNat = some p ∧ af_seg S i = some q ∧ q.1 ≤ p.1 ∧ p.2 ≤ q.2
  | 0, j, _ => by
    intro i h1 h2
    omega
  | c + 1, j, h => by
    intro i h1 h2
    unfold af_shf at h
    rw [Bool.and_eq_true] at h
    by_cases hi : i = j
    · subst hi
      have h3 := h.1
      split at h3
      · rename_i h0
        refine ⟨h0, ?_⟩
        split at h3
        · cases h3
        · rename_i p hp
          split at h3
          · cases h3
          · rename_i q hq
            simp only [Bool.and_eq_true, decide_eq_true_eq] at h3
            exact ⟨p, q, hp, hq, h3.1, h3.2⟩
      · cases h3
    · exact af_shf_ok h.2 i (by omega) (by omega)
theorem af_idx_ok {n : Nat} {ρ : Nat → Int} {Sh : af_H} {N : af_N} (hK : af_Kn n ρ Sh N) {f : af_F} {m a b : Nat} {i : Int32} (h : af_idx N f m = some (a, b)) (hi : i.toInt = af_ev ρ f) : ¬ (i < 0 ∨ m ≤ i.toNatClampNeg) ∧ a ≤ i.toNatClampNeg ∧ i.toNatClampNeg ≤ b ∧ i.toNatClampNeg < m ∧ (i.toNatClampNeg : Int) = i.toInt := by
  unfold af_idx at h
  split at h
  · rename_i x y hq
    have q := af_iv_ok hK hq
    split at h
    · rename_i hr
      cases h
      have nx : ¬ i < 0 := by rw [Int32.lt_iff_toInt_lt, Int32.toInt_zero]; omega
      obtain ⟨j, hj, rfl⟩ := nI_of nx
      rw [nI_clamp hj]
      rw [nI_toInt hj] at hi ⊢
      refine ⟨?_, by omega, by omega, by omega, rfl⟩
      rintro (h | h)
      · exact nx h
      · omega
    · cases h
  · cases h
end
section
/-! ===== each abstract step takes in the pure one ===== -/
section AFS
variable {Sh : af_H} {M NT : af_M} {n : Nat} {ρ : Nat → Int} {L : af_L} {T : af_T} {N : af_N} {own nL len pc : Nat} {ini : Bool} {lv : pi_L} {st : List Value} {w : pi_W} {R : List (Nat × af_S)} {as : List af_V}
theorem st_i {f : af_F} (h : af_St n ρ (.inl f :: as) st) : ∃ (x : Int32) (vs : List Value), st = .int x :: vs ∧ af_wf n f ∧ x.toInt = af_ev ρ f ∧ af_St n ρ as vs := by
  match st, h with
  | v :: vs, ⟨⟨h1, x, h2, h3⟩, h4⟩ => exact ⟨x, vs, by rw [h2], h1, h3, h4⟩
theorem st_r {a : Nat} (h : af_St n ρ (.inr (.inl a) :: as) st) : ∃ (vs : List Value), st = .ref a :: vs ∧ af_St n ρ as vs := by
  match st, h with
  | v :: vs, ⟨h1, h4⟩ => exact ⟨vs, by rw [show v = .ref a from h1], h4⟩
theorem st_l {u : Unit} (h : af_St n ρ (.inr (.inr u) :: as) st) : ∃ (x : Int64) (vs : List Value), st = .long x :: vs ∧ af_St n ρ as vs := by
  match st, h with
  | v :: vs, ⟨⟨x, h1⟩, h4⟩ => exact ⟨x, vs, by rw [h1], h4⟩
theorem af_Conf.at {c : af_C} {a : Nat} (hC : af_Conf Sh w) (h : Sh[a]? = some c) : ∃ e, w[a]? = some e ∧ af_okC c e := hC.2.2 a c h
theorem af_okA.int {t m : Nat} {S : List (Nat × Int × Int)} {e : pi_E} (ht : t ≠ 2) (h : af_okA t m S e) : ∃ f : Nat → Int32, e = .inl (t, m, .inl f) ∧ ∀ i, i < m → ∃ q, af_seg S i = some q ∧ q.1 ≤ (f i).toInt ∧ (f i).toInt ≤ q.2 := by
  unfold af_okA at h
  rw [if_neg ht] at h
  exact h.2
theorem af_okA.lng {m : Nat} {S : List (Nat × Int × Int)} {e : pi_E} (h : af_okA 2 m S e) : ∃ f : Nat → Int64, e = .inl (2, m, .inr (.inl f)) := by
  unfold af_okA at h
  rw [if_pos rfl] at h
  exact h
theorem af_Conf.lt {a : Nat} {c : af_C} (hC : af_Conf Sh w) (h : Sh[a]? = some c) : a < 1000 := Nat.lt_of_lt_of_le (List.getElem?_eq_some_iff.mp h).1 hC.2.1
/-- a cell is put in place -/
theorem af_Conf.set {a : Nat} {c : af_C} {e : pi_E} (hC : af_Conf Sh w) (h : Sh[a]? = some c) (he : af_okC c e) : af_Conf Sh (w.set a e) := by
  refine ⟨by rw [List.length_set]; exact hC.1, hC.2.1, fun k c' hk => ?_⟩
  obtain ⟨e0, h0, h1⟩ := hC.2.2 k c' hk
  by_cases hka : k = a
  · subst hka
    rw [h] at hk
    cases hk
    have hl : k < w.length := (List.getElem?_eq_some_iff.mp h0).1
    exact ⟨e, List.getElem?_set_self hl, he⟩
  · exact ⟨e0, by rw [List.getElem?_set_ne (fun q => hka q.symm)]; exact h0, h1⟩
theorem af_rd {c i : Nat} {lo hi : Int} {x : Int32} {pc' : Nat} {vs : List Value} (hL : af_Lo n ρ L lv) (hs : af_St n ρ as vs) (hC : af_Conf Sh w) (hT : af_Sl n ρ T w) (hK : af_Kn n ρ Sh N) (hc : c < 1000) (hx : af_wloc w c i = some (.int x)) (h1 : lo ≤ x.toInt) (h2 : x.toInt ≤ hi) : af_Ok Sh M (af_read NT pc' n L as T N c i lo hi) n ρ w (pc', lv, .int x :: vs, w) := by
  have hloc : af_loc w c i = some (.int x) := by
    unfold af_loc
    rw [if_neg (show c ≠ af_virt from Nat.ne_of_lt hc)]
    exact hx
  unfold af_read
  split
  · rename_i f hf
    obtain ⟨k0, x', k1, k2⟩ := hT _ (af_getT_mem hf)
    dsimp only at k0 k1 k2
    rw [hloc] at k1
    cases k1
    exact af_Ok.push hL hs hC hT hK ⟨k0, x, rfl, k2⟩
  · split
    · exact af_Ok.put hL hs hC hT hK ⟨h1, h2⟩
    · have ha := af_upd_ag ρ n x.toInt
      obtain ⟨s1, s2, s3, s4, s5⟩ := af_fresh (pc' := pc') (lo := lo) (hi := hi) (x := x) hL hs hC hT hK h1 h2
      refine af_Ok.one (af_Fr.rf M w) rfl (Nat.le_succ n) ⟨_, ha, s1, s2, s3, ?_, s5⟩
      intro e he
      rcases List.mem_cons.mp he with rfl | he
      · exact ⟨af_wf_1 n 0, x, hloc, by rw [af_ev_1, af_upd_at]; omega⟩
      · exact s4 e he
/-- a place is written -/
theorem af_wr {a x y j : Nat} {c : af_C} {e0 e : pi_E} {pc' : Nat} {vs : List Value} {T' : af_T} (hL : af_Lo n ρ L lv) (hs : af_St n ρ as vs) (hC : af_Conf Sh w) (hT : af_Sl n ρ T w) (hK : af_Kn n ρ Sh N) (hSh : Sh[a]? = some c) (h0 : w[a]? = some e0) (hok : af_okC c e) (hne : ∀ i, i ≠ j → af_cloc e i = af_cloc e0 i) (hj1 : x ≤ j) (hj2 : j ≤ y) (hM : af_cov M a x y = true)
    (hT' : T' = af_drop T a x y ∨ ∃ (g : af_F) (v : Int32), T' = ((a, x), g) :: af_drop T a x y ∧ x = y ∧ af_cloc e j = some (.int v) ∧ af_wf n g ∧ v.toInt = af_ev ρ g) : af_Ok Sh M [(pc', n, L, as, T', N)] n ρ w (pc', lv, vs, w.set a e) := by
  have hw : ∀ c' i', ¬ (c' = a ∧ i' = j) → af_wloc (w.set a e) c' i' = af_wloc w c' i' := by
    intro c' i' hn
    rw [af_wloc_set h0]
    by_cases hc : c' = a
    · rw [if_pos hc, hne i' (fun q => hn ⟨hc, q⟩), hc]
      unfold af_wloc
      rw [h0]
    · rw [if_neg hc]
  have hS : af_Sl n ρ (af_drop T a x y) (w.set a e) := hT.drop (fun c' i' hn => hw c' i' (fun q => hn ⟨q.1, by omega, by omega⟩))
  refine af_Ok.one ?_ rfl (Nat.le_refl _) ⟨ρ, af_ag.rf _ _, hL, hs, hC.set hSh hok, ?_, hK⟩
  · intro c' i' hcv
    refine hw c' i' ?_
    rintro ⟨rfl, rfl⟩
    rw [af_cov_in hM hj1 hj2] at hcv
    cases hcv
  · rcases hT' with rfl | ⟨g, v, rfl, hxy, hv, hg1, hg2⟩
    · exact hS
    · intro e' he'
      rcases List.mem_cons.mp he' with rfl | he'
      · refine ⟨hg1, v, ?_, hg2⟩
        unfold af_loc
        dsimp only
        rw [if_neg (show a ≠ af_virt from Nat.ne_of_lt (hC.lt hSh)), af_wloc_set h0, if_pos rfl, show x = j by omega]
        exact hv
      · exact hS e' he'
theorem af_olook_mem : ∀ {O : List (Nat × Nat × af_F)} {v : Nat} {q : Nat × af_F}, af_olook O v = some q → (v, q) ∈ O
  | [], _, _, h => by cases h
  | (u, p) :: O, v, q, h => by
    unfold af_olook at h
    split at h
    · rename_i hu
      cases h
      have : u = v := by simpa using hu
      subst this
      exact List.mem_cons_self
    · exact List.mem_cons_of_mem _ (af_olook_mem h)
theorem af_orig_ok {g f : af_F} {S : List (Nat × Int × Int)} {x y j : Nat} {v : Int32} (hK : af_Kn n ρ Sh N) (h : af_orig Sh N g S f x y = true) (h1 : x ≤ j) (h2 : j ≤ y) (hv : v.toInt = af_ev ρ g) (hj : (j : Int) = af_ev ρ f) : ∀ q, af_seg S j = some q → q.1 ≤ v.toInt ∧ v.toInt ≤ q.2 := by
  intro q hq
  unfold af_orig at h
  split at h
  · rename_i v0
    split at h
    · cases h
    · rename_i c hf hol
      split at h
      · rename_i k hls
        split at h
        · rename_i m0 Sc hSc
          obtain ⟨k1, k2, m', S', q', e1, e2, e3, e4, e5⟩ := hK.2.2 _ (af_olook_mem hol)
          dsimp only at e1 e2 e3 e4 e5
          rw [hSc] at e1
          cases e1
          have hl := (af_less_ok (ρ := ρ) hls).1
          rw [af_ev_c] at hl
          obtain ⟨p0, p, q2, p1, p2, p3, p4⟩ := af_shf_ok h j h1 (by omega)
          rw [hq] at p2
          cases p2
          rw [show af_ev ρ hf = (j : Int) + k by omega, p1] at e3
          cases e3
          rw [af_ev_1] at hv
          omega
        · cases h
      · cases h
  · cases h
theorem af_okA.upd {t m j : Nat} {S : List (Nat × Int × Int)} {fn : Nat → Int32} {v : Int32} (ht : t ≠ 2) (h4 : t < 4) (hfn : ∀ i, i < m → ∃ q, af_seg S i = some q ∧ q.1 ≤ (fn i).toInt ∧ (fn i).toInt ≤ q.2) (hv : ∀ q, af_seg S j = some q → q.1 ≤ v.toInt ∧ v.toInt ≤ q.2) : af_okC (.inl (t, m, S)) (.inl (t, m, .inl (upd fn j v))) := by
  show af_okA t m S _
  unfold af_okA
  rw [if_neg ht]
  refine ⟨h4, _, rfl, fun i hi => ?_⟩
  obtain ⟨q, q1, q2, q3⟩ := hfn i hi
  show ∃ q, af_seg S i = some q ∧ q.1 ≤ (if i = j then v else fn i).toInt ∧ (if i = j then v else fn i).toInt ≤ q.2
  by_cases hij : i = j
  · rw [if_pos hij]
    subst hij
    exact ⟨q, q1, hv q q1⟩
  · rw [if_neg hij]
    exact ⟨q, q1, q2, q3⟩
theorem af_cloc_upd {t m j : Nat} {fn : Nat → Int32} {v : Int32} : ∀ i, i ≠ j → af_cloc (.inl (t, m, .inl (upd fn j v))) i = af_cloc (.inl (t, m, .inl fn)) i := fun i hi => by
  simp only [af_cloc, upd, if_neg hi]
theorem af_cloc_at {t m j : Nat} {fn : Nat → Int32} {v : Int32} (hj : j < m) : af_cloc (.inl (t, m, .inl (upd fn j v))) j = some (.int v) := by
  simp only [af_cloc, upd, if_pos hj, if_true]
theorem af_b8 (x : Int32) : -128 ≤ (vp_nar .byte x).toInt ∧ (vp_nar .byte x).toInt ≤ 127 := by
  have e := Int8.toInt_toInt32 x.toInt8
  have h1 := Int8.le_toInt x.toInt8
  have h2 := Int8.toInt_lt x.toInt8
  show -128 ≤ x.toInt8.toInt32.toInt ∧ x.toInt8.toInt32.toInt ≤ 127
  omega
theorem af_01 {x : Int32} (h1 : 0 ≤ x.toInt) (h2 : x.toInt ≤ 1) : x = 0 ∨ x = 1 := by
  by_cases h : x.toInt = 0
  · exact Or.inl (Int32.toInt_inj.mp (by rw [h]; rfl))
  · exact Or.inr (Int32.toInt_inj.mp (by rw [show x.toInt = 1 by omega]; rfl))
theorem af_z1 {x : Int32} (h1 : 0 ≤ x.toInt) (h2 : x.toInt ≤ 1) : vp_nar .boolean x = x := by
  rcases af_01 h1 h2 with rfl | rfl
  · rfl
  · rfl
theorem af_ft {x : Int32} (h1 : 0 ≤ x.toInt) (h2 : x.toInt ≤ 1) : fits .boolean (.int x) = true := by
  rcases af_01 h1 h2 with rfl | rfl
  · rfl
  · rfl
theorem af_nz {x : Int32} (h1 : 0 ≤ x.toInt) (h2 : x.toInt ≤ 1) : narrow .boolean (.int x) = .int x := by
  rcases af_01 h1 h2 with rfl | rfl
  · rfl
  · rfl
/-- a long is written: no slot that is known was there -/
theorem af_wrL {a x y j : Nat} {c : af_C} {e0 e : pi_E} {pc' : Nat} {vs : List Value} (hL : af_Lo n ρ L lv) (hs : af_St n ρ as vs) (hC : af_Conf Sh w) (hT : af_Sl n ρ T w) (hK : af_Kn n ρ Sh N) (hSh : Sh[a]? = some c) (h0 : w[a]? = some e0) (hok : af_okC c e) (hne : ∀ i, i ≠ j → af_cloc e i = af_cloc e0 i) (hj1 : x ≤ j) (hj2 : j ≤ y) (hM : af_cov M a x y = true) (hlong : ∃ z, af_cloc e0 j = some (.long z)) (hlong2 : ∃ z, af_cloc e j = some (.long z)) : af_Ok Sh M [(pc', n, L, as, T, N)] n ρ w (pc', lv, vs, w.set a e) := by
  obtain ⟨z, hz⟩ := hlong
  obtain ⟨z2, hz2⟩ := hlong2
  have hw1 : ∀ c' i', ¬ (c' = a ∧ i' = j) → af_wloc (w.set a e) c' i' = af_wloc w c' i' := by
    intro c' i' hn
    rw [af_wloc_set h0]
    by_cases hc : c' = a
    · rw [if_pos hc, hne i' (fun q => hn ⟨hc, q⟩), hc]
      unfold af_wloc
      rw [h0]
    · rw [if_neg hc]
  have hw : ∀ c' i', af_wloc (w.set a e) c' i' = af_wloc w c' i' ∨ ((∃ z, af_wloc w c' i' = some (.long z)) ∧ ∃ z, af_wloc (w.set a e) c' i' = some (.long z)) := by
    intro c' i'
    by_cases hc : c' = a ∧ i' = j
    · obtain ⟨rfl, rfl⟩ := hc
      refine Or.inr ⟨⟨z, ?_⟩, z2, ?_⟩
      · unfold af_wloc
        rw [h0]
        exact hz
      · rw [af_wloc_set h0, if_pos rfl]
        exact hz2
    · exact Or.inl (hw1 c' i' hc)
  have hp : af_peek (w.set a e) = af_peek w := by
    unfold af_peek
    rcases hw 61 4 with h1 | ⟨⟨z1, h1⟩, z1', h1'⟩
    · rw [h1]
      rcases hw 61 3 with h2 | ⟨⟨z3, h2⟩, z3', h2'⟩
      · rw [h2]
        split
        · rename_i p q _ _
          rcases hw 62 p.toNatClampNeg with h3 | ⟨⟨z4, h3⟩, z4', h3'⟩
          · rw [h3]
          · rw [h3, h3']
        · rfl
      · rw [h2, h2']
        cases af_wloc w 61 4 with
        | none => rfl
        | some v => cases v <;> rfl
    · rw [h1, h1']
  refine af_Ok.one ?_ rfl (Nat.le_refl _) ⟨ρ, af_ag.rf _ _, hL, hs, hC.set hSh hok, ?_, hK⟩
  · intro c' i' hcv
    refine hw1 c' i' ?_
    rintro ⟨rfl, rfl⟩
    rw [af_cov_in hM hj1 hj2] at hcv
    cases hcv
  · intro e' he'
    obtain ⟨k0, x', k1, k2⟩ := hT e' he'
    refine ⟨k0, x', ?_, k2⟩
    unfold af_loc at k1 ⊢
    split at k1
    · rename_i hv
      rw [if_pos hv]
      rw [hp]
      exact k1
    · rename_i hv
      rw [if_neg hv]
      rcases hw e'.1.1 e'.1.2 with h1 | ⟨⟨z1, h1⟩, -⟩
      · rw [h1]; exact k1
      · rw [h1] at k1; cases k1
theorem af_okO_set {c k : Nat} {fts : List (Nat ⊕ (Int × Int) ⊕ Unit)} {fs : List Value} {ft : Nat ⊕ (Int × Int) ⊕ Unit} {v : Value} (hln : fs.length = fts.length) (hfs : ∀ (j : Nat) (ft : Nat ⊕ (Int × Int) ⊕ Unit), fts[j]? = some ft → ∃ v, fs[j]? = some v ∧ af_okF ft v) (hft : fts[k]? = some ft) (hv : af_okF ft v) : af_okC (.inr (c, fts)) (.inr (c, fs.set k v)) := by
  refine ⟨_, rfl, by rw [List.length_set]; exact hln, fun j ft' hj => ?_⟩
  by_cases hjk : j = k
  · subst hjk
    rw [hft] at hj
    cases hj
    exact ⟨v, List.getElem?_set_self (by rw [hln]; exact (List.getElem?_eq_some_iff.mp hft).1), hv⟩
  · obtain ⟨v', h1, h2⟩ := hfs j ft' hj
    exact ⟨v', by rw [List.getElem?_set_ne (fun q => hjk q.symm)]; exact h1, h2⟩
theorem af_br_ok {f g : af_F} {x y : Int32} {cd : ClassFile.Cond} {t p3 : Nat} {vs : List Value} (hL : af_Lo n ρ L lv) (hs : af_St n ρ as vs) (hC : af_Conf Sh w) (hT : af_Sl n ρ T w) (hK : af_Kn n ρ Sh N) (hf : af_wf n f) (hg : af_wf n g) (hx : x.toInt = af_ev ρ f) (hy : y.toInt = af_ev ρ g) : af_Ok Sh M (af_br N cd f g t p3 n L as T) n ρ w (if pi_cmp cd x y = true then t else p3, lv, vs, w) := by
  by_cases hc : pi_cmp cd x y = true
  · rw [if_pos hc]
    obtain ⟨N1, e1, k1⟩ := af_cmp_ok hK hf hg hx hy hc
    refine ⟨af_Fr.rf M w, (t, n, L, as, T, N1), ?_, rfl, Nat.le_refl _, ρ, af_ag.rf _ _, hL, hs, hC, hT, k1⟩
    unfold af_br
    rw [e1]
    exact List.mem_append_left _ List.mem_cons_self
  · rw [if_neg hc]
    obtain ⟨N1, e1, k1⟩ := af_cmp_ok hK hf hg hx hy (af_neg_ok hc)
    refine ⟨af_Fr.rf M w, (p3, n, L, as, T, N1), ?_, rfl, Nat.le_refl _, ρ, af_ag.rf _ _, hL, hs, hC, hT, k1⟩
    unfold af_br
    rw [e1]
    exact List.mem_append_right _ List.mem_cons_self
theorem af_tsw_ok {f : af_F} {x : Int32} {vs : List Value} (hL : af_Lo n ρ L lv) (hs : af_St n ρ as vs) (hC : af_Conf Sh w) (hT : af_Sl n ρ T w) (hK : af_Kn n ρ Sh N) (hf : af_wf n f) (hx : x.toInt = af_ev ρ f) : ∀ {offs : List Int} {k : Int} {R : List (Nat × af_S)}, af_tsw pc n L as T N f k offs = some R → ∀ (j : Nat) (off : Int), offs[j]? = some off → x.toInt = k + j → ∃ t, pi_tgt pc off = some t ∧ ∃ N1, (t, n, L, as, T, N1) ∈ R ∧ af_Kn n ρ Sh N1
  | [], _, _, _, j, off, hj, _ => by simp at hj
  | o1 :: offs, k, R, h, j, off, hj, hxk => by
    unfold af_tsw at h
    split at h
    · cases h
    · rename_i R1 h1
      cases j with
      | zero =>
        have e0 : o1 = off := by simpa using hj
        subst e0
        obtain ⟨N1, e1, k1⟩ := af_clip_ok hK hf (lo := k) (hi := k) (by simp at hxk; omega) (by simp at hxk; omega)
        rw [e1] at h
        dsimp only at h
        split at h
        · cases h
        · rename_i t ht
          cases h
          exact ⟨t, ht, N1, List.mem_cons_self, k1⟩
      | succ j =>
        obtain ⟨t, ht, N1, hm, k1⟩ := af_tsw_ok hL hs hC hT hK hf hx h1 j off (by simpa using hj) (by rw [hxk]; push_cast; omega)
        refine ⟨t, ht, N1, ?_, k1⟩
        split at h
        · cases h; exact hm
        · split at h
          · cases h
          · cases h; exact List.mem_cons_of_mem _ hm
theorem af_app3_of {a b c : Option (List (Nat × af_S))} {R : List (Nat × af_S)} (h : af_app3 a b c = some R) : ∃ x y z, a = some x ∧ b = some y ∧ c = some z ∧ R = x ++ (y ++ z) := by
  match a, b, c, h with
  | some x, some y, some z, h => cases h; exact ⟨x, y, z, rfl, rfl, rfl, rfl⟩
theorem af_one_of {t : Option Nat} {N1 : af_N} {R : List (Nat × af_S)} (h : af_one t n L as T (some N1) = some R) : ∃ t', t = some t' ∧ R = [(t', n, L, as, T, N1)] := by
  match t, h with
  | some t, h => cases h; exact ⟨t, rfl, rfl⟩
theorem af_lsw_ok {f : af_F} {x : Int32} {vs : List Value} (hL : af_Lo n ρ L lv) (hs : af_St n ρ as vs) (hC : af_Conf Sh w) (hT : af_Sl n ρ T w) (hK : af_Kn n ρ Sh N) (hf : af_wf n f) (hx : x.toInt = af_ev ρ f) (d : Int) : ∀ {ps : List (Int × Int)} {R : List (Nat × af_S)}, af_lsw pc n L as T N f ps = some R → (∃ t, pi_tgt pc (Op.lookupswitch.offset ps d x.toInt) = some t ∧ ∃ N1, (t, n, L, as, T, N1) ∈ R ∧ af_Kn n ρ Sh N1) ∨ Op.lookupswitch.offset ps d x.toInt = d
  | [], _, _ => Or.inr rfl
  | (k, off) :: ps, R, h => by
    unfold af_lsw at h
    split at h
    · cases h
    · rename_i R1 h1
      have ih := af_lsw_ok hL hs hC hT hK hf hx d h1
      by_cases hk : x.toInt = k
      · left
        obtain ⟨N1, e1, k1⟩ := af_clip_ok hK hf (lo := k) (hi := k) (by omega) (by omega)
        rw [e1] at h
        dsimp only at h
        split at h
        · cases h
        · rename_i t ht
          cases h
          refine ⟨t, ?_, N1, List.mem_cons_self, k1⟩
          rw [show Op.lookupswitch.offset ((k, off) :: ps) d x.toInt = off by simp [Op.lookupswitch.offset, hk]]
          exact ht
      · have e : Op.lookupswitch.offset ((k, off) :: ps) d x.toInt = Op.lookupswitch.offset ps d x.toInt := by simp [Op.lookupswitch.offset, hk, Ne.symm hk]
        rw [e]
        rcases ih with ⟨t, ht, N1, hm, k1⟩ | ih
        · left
          refine ⟨t, ht, N1, ?_, k1⟩
          split at h
          · cases h; exact hm
          · split at h
            · cases h
            · cases h; exact List.mem_cons_of_mem _ hm
        · exact Or.inr ih
set_option maxHeartbeats 4000000 in
theorem as_step {i : Instr} {σ : af_S} (h : af_step own nL Sh M NT i len pc σ = some R) (hS : af_Sat Sh ρ σ (pc, lv, st, w)) : ∃ s', pi_step own ini nL i len (pc, lv, st, w) = some s' ∧ af_Ok Sh M R σ.1 ρ w s' := by
  obtain ⟨n, L, as, T, N⟩ := σ
  obtain ⟨hL, hs, hC, hT, hK⟩ := hS
  dsimp only at hL hs hC hT hK
  cases i
  case iconst k =>
    simp only [af_step] at h
    split at h
    · rename_i hlen; obtain ⟨rfl, h1, h2⟩ := hlen
      cases h
      refine ⟨_, rfl, af_Ok.push hL hs hC hT hK ⟨af_wf_c _ _, _, rfl, ?_⟩⟩
      rw [af_ev_c, Int32.toInt_ofInt]
      exact af_bm h1 h2
    · cases h
  case bipush k =>
    simp only [af_step] at h
    split at h
    · rename_i hlen; obtain ⟨rfl, h1, h2⟩ := hlen
      cases h
      refine ⟨_, rfl, af_Ok.push hL hs hC hT hK ⟨af_wf_c _ _, _, rfl, ?_⟩⟩
      rw [af_ev_c, Int8.toInt_toInt32, Int8.toInt_ofInt, show Int8.size = 256 from rfl, Int.bmod_def]
      split <;> omega
    · cases h
  case sipush k =>
    simp only [af_step] at h
    split at h
    · rename_i hlen; obtain ⟨rfl, h1, h2⟩ := hlen
      cases h
      refine ⟨_, rfl, af_Ok.push hL hs hC hT hK ⟨af_wf_c _ _, _, rfl, ?_⟩⟩
      rw [af_ev_c, Int16.toInt_toInt32, Int16.toInt_ofInt, show Int16.size = 65536 from rfl, Int.bmod_def]
      split <;> omega
    · cases h
  case lconst k =>
    simp only [af_step] at h
    split at h
    · rename_i hlen; subst hlen
      cases h
      exact ⟨_, rfl, af_Ok.push hL hs hC hT hK ⟨_, rfl⟩⟩
    · cases h
  case ldc k =>
    simp only [af_step] at h
    split at h
    · rename_i hlen; subst hlen
      split at h
      · rename_i v q hq
        cases h
        refine ⟨(pc + 2, lv, .int v :: st, w), ?_, af_Ok.push hL hs hC hT hK ⟨af_wf_c _ _, _, rfl, (af_ev_c _ _).symm⟩⟩
        simp only [pi_step, hq, if_true]
      · cases h
    · cases h
  case ldc_w k =>
    simp only [af_step] at h
    split at h
    · rename_i hlen; subst hlen
      split at h
      · rename_i v q hq
        cases h
        refine ⟨(pc + 3, lv, .int v :: st, w), ?_, af_Ok.push hL hs hC hT hK ⟨af_wf_c _ _, _, rfl, (af_ev_c _ _).symm⟩⟩
        simp only [pi_step, hq, if_true]
      · cases h
    · cases h
  case ldc2_w k =>
    simp only [af_step] at h
    split at h
    · rename_i hlen; subst hlen
      split at h
      · rename_i q hq
        cases h
        refine ⟨(pc + 3, lv, .long q.1 :: st, w), ?_, af_Ok.push hL hs hC hT hK ⟨_, rfl⟩⟩
        simp only [pi_step, hq, if_true]
      · cases h
    · cases h
  case iload k =>
    simp only [af_step] at h
    split at h
    · rename_i hlen; subst hlen
      split at h
      · rename_i f hf
        cases h
        obtain ⟨v, hv, h1, x, h2, h3⟩ := hL _ (af_getL_mem hf)
        dsimp only at hv h2
        subst h2
        refine ⟨(pc + 2, lv, .int x :: st, w), ?_, af_Ok.push hL hs hC hT hK ⟨h1, x, rfl, h3⟩⟩
        simp only [pi_step, hv, if_true]
      · cases h
    · cases h
  case iload_n k =>
    simp only [af_step] at h
    split at h
    · rename_i hlen; subst hlen
      split at h
      · rename_i f hf
        cases h
        obtain ⟨v, hv, h1, x, h2, h3⟩ := hL _ (af_getL_mem hf)
        dsimp only at hv h2
        subst h2
        refine ⟨(pc + 1, lv, .int x :: st, w), ?_, af_Ok.push hL hs hC hT hK ⟨h1, x, rfl, h3⟩⟩
        simp only [pi_step, hv, if_true]
      · cases h
    · cases h
  case lload_n k =>
    simp only [af_step] at h
    split at h
    · rename_i hlen; subst hlen
      split at h
      · rename_i u hf
        cases h
        obtain ⟨v, hv, x, h2⟩ := hL _ (af_getL_mem hf)
        dsimp only at hv h2
        subst h2
        refine ⟨(pc + 1, lv, .long x :: st, w), ?_, af_Ok.push hL hs hC hT hK ⟨x, rfl⟩⟩
        simp only [pi_step, hv, if_true]
      · cases h
    · cases h
  case aload_n k =>
    simp only [af_step] at h
    split at h
    · rename_i hlen; subst hlen
      split at h
      · rename_i a hf
        cases h
        obtain ⟨v, hv, h2⟩ := hL _ (af_getL_mem hf)
        dsimp only at hv h2
        have h2 : v = .ref a := h2
        subst h2
        refine ⟨(pc + 1, lv, .ref a :: st, w), ?_, af_Ok.push hL hs hC hT hK rfl⟩
        simp only [pi_step, hv, if_true]
      · cases h
    · cases h
  case istore k =>
    simp only [af_step] at h
    split at h
    · rename_i hlen; obtain ⟨rfl, hn⟩ := hlen
      split at h
      · rename_i f r
        cases h
        obtain ⟨x, vs1, rfl, hf, hx, hs1⟩ := st_i hs
        refine ⟨(pc + 2, pi_set lv k (.int x), vs1, w), ?_, af_Ok.same (af_setL_ok hL k ⟨hf, x, rfl, hx⟩) hs1 hC hT hK⟩
        simp only [pi_step, hn, and_self, if_true]
      · cases h
    · cases h
  case istore_n k =>
    simp only [af_step] at h
    split at h
    · rename_i hlen; obtain ⟨rfl, hn⟩ := hlen
      split at h
      · rename_i f r
        cases h
        obtain ⟨x, vs1, rfl, hf, hx, hs1⟩ := st_i hs
        refine ⟨(pc + 1, pi_set lv k (.int x), vs1, w), ?_, af_Ok.same (af_setL_ok hL k ⟨hf, x, rfl, hx⟩) hs1 hC hT hK⟩
        simp only [pi_step, hn, and_self, if_true]
      · cases h
    · cases h
  case iinc k j =>
    simp only [af_step] at h
    split at h
    · rename_i hlen; obtain ⟨rfl, hn, hj1, hj2⟩ := hlen
      split at h
      · rename_i f hf
        obtain ⟨v, hv, h1, x, h2, h3⟩ := hL _ (af_getL_mem hf)
        dsimp only at hv h2
        subst h2
        have hj : (Int32.ofInt j).toInt = af_ev ρ (j, []) := by
          rw [af_ev_c, Int32.toInt_ofInt]
          exact af_bm (by unfold af_lo; omega) (by unfold af_hi; omega)
        have hr := af_add_ok hK h1 (af_wf_c n j) h3 hj
        refine ⟨(pc + 3, pi_set lv k (.int (x + Int32.ofInt j)), st, w), by simp only [pi_step, hn, hv, and_self, if_true], ?_⟩
        split at h
        · rename_i g hg
          cases h
          rw [hg] at hr
          exact af_Ok.same (af_setL_ok hL k ⟨hr.1, _, rfl, hr.2⟩) hs hC hT hK
        · rename_i lo hi hg
          cases h
          rw [hg] at hr
          have ha := af_upd_ag ρ n (x + Int32.ofInt j).toInt
          have hn1 := Nat.le_succ n
          refine af_Ok.one (af_Fr.rf M w) rfl hn1 ⟨_, ha, af_setL_ok (hL.ag hn1 ha) k ⟨af_wf_1 n 0, _, rfl, ?_⟩, hs.ag hn1 ha, hC, hT.ag hn1 ha, (hK.ag hn1 ha).bn (Nat.lt_succ_self n) ?_ ?_⟩
          · rw [af_ev_1, af_upd_at]; omega
          · rw [af_upd_at]; exact hr.1
          · rw [af_upd_at]; exact hr.2
      · cases h
    · cases h
  case iadd =>
    simp only [af_step] at h
    split at h
    · rename_i hlen; subst hlen
      split at h
      · cases h
        obtain ⟨y, vs1, rfl, hg, hy, hs1⟩ := st_i hs
        obtain ⟨x, vs2, rfl, hf, hx, hs2⟩ := st_i hs1
        exact ⟨_, rfl, af_Ok.put hL hs2 hC hT hK (af_add_ok hK hf hg hx hy)⟩
      · cases h
    · cases h
  case isub =>
    simp only [af_step] at h
    split at h
    · rename_i hlen; subst hlen
      split at h
      · cases h
        obtain ⟨y, vs1, rfl, hg, hy, hs1⟩ := st_i hs
        obtain ⟨x, vs2, rfl, hf, hx, hs2⟩ := st_i hs1
        exact ⟨_, rfl, af_Ok.put hL hs2 hC hT hK (af_subt_ok hK hf hx hy)⟩
      · cases h
    · cases h
  case imul =>
    simp only [af_step] at h
    split at h
    · rename_i hlen; subst hlen
      split at h
      · cases h
        obtain ⟨y, vs1, rfl, hg, hy, hs1⟩ := st_i hs
        obtain ⟨x, vs2, rfl, hf, hx, hs2⟩ := st_i hs1
        exact ⟨_, rfl, af_Ok.put hL hs2 hC hT hK (af_mul_ok hK hx hy)⟩
      · cases h
    · cases h
  case iand =>
    simp only [af_step] at h
    split at h
    · rename_i hlen; subst hlen
      split at h
      · cases h
        obtain ⟨y, vs1, rfl, hg, hy, hs1⟩ := st_i hs
        obtain ⟨x, vs2, rfl, hf, hx, hs2⟩ := st_i hs1
        exact ⟨_, rfl, af_Ok.put hL hs2 hC hT hK (af_and_ok hK hx hy)⟩
      · cases h
    · cases h
  case ior =>
    simp only [af_step] at h
    split at h
    · rename_i hlen; subst hlen
      split at h
      · cases h
        obtain ⟨y, vs1, rfl, hg, hy, hs1⟩ := st_i hs
        obtain ⟨x, vs2, rfl, hf, hx, hs2⟩ := st_i hs1
        exact ⟨_, rfl, af_Ok.put hL hs2 hC hT hK (af_Rs.full _ _ _)⟩
      · cases h
    · cases h
  case ixor =>
    simp only [af_step] at h
    split at h
    · rename_i hlen; subst hlen
      split at h
      · cases h
        obtain ⟨y, vs1, rfl, hg, hy, hs1⟩ := st_i hs
        obtain ⟨x, vs2, rfl, hf, hx, hs2⟩ := st_i hs1
        exact ⟨_, rfl, af_Ok.put hL hs2 hC hT hK (af_Rs.full _ _ _)⟩
      · cases h
    · cases h
  case ishl =>
    simp only [af_step] at h
    split at h
    · rename_i hlen; subst hlen
      split at h
      · cases h
        obtain ⟨y, vs1, rfl, hg, hy, hs1⟩ := st_i hs
        obtain ⟨x, vs2, rfl, hf, hx, hs2⟩ := st_i hs1
        exact ⟨_, rfl, af_Ok.put hL hs2 hC hT hK (af_Rs.full _ _ _)⟩
      · cases h
    · cases h
  case ishr =>
    simp only [af_step] at h
    split at h
    · rename_i hlen; subst hlen
      split at h
      · cases h
        obtain ⟨y, vs1, rfl, hg, hy, hs1⟩ := st_i hs
        obtain ⟨x, vs2, rfl, hf, hx, hs2⟩ := st_i hs1
        exact ⟨_, rfl, af_Ok.put hL hs2 hC hT hK (af_Rs.full _ _ _)⟩
      · cases h
    · cases h
  case iushr =>
    simp only [af_step] at h
    split at h
    · rename_i hlen; subst hlen
      split at h
      · cases h
        obtain ⟨y, vs1, rfl, hg, hy, hs1⟩ := st_i hs
        obtain ⟨x, vs2, rfl, hf, hx, hs2⟩ := st_i hs1
        exact ⟨_, rfl, af_Ok.put hL hs2 hC hT hK (af_ushr_ok hK hy)⟩
      · cases h
    · cases h
  case irem =>
    simp only [af_step] at h
    split at h
    · rename_i hlen; subst hlen
      split at h
      · split at h
        · cases h
        · rename_i q hq
          cases h
          obtain ⟨y, vs1, rfl, hg, hy, hs1⟩ := st_i hs
          obtain ⟨x, vs2, rfl, hf, hx, hs2⟩ := st_i hs1
          obtain ⟨hy0, hr⟩ := af_rem_ok hK hx hy hq
          refine ⟨(pc + 1, lv, .int (x - x / y * y) :: vs2, w), ?_, af_Ok.put hL hs2 hC hT hK hr⟩
          simp only [pi_step, hy0, if_true, if_false]
      · cases h
    · cases h
  case i2b =>
    simp only [af_step] at h
    split at h
    · rename_i hlen; subst hlen
      split at h
      · cases h
        obtain ⟨x, vs1, rfl, hf, hx, hs1⟩ := st_i hs
        refine ⟨_, rfl, af_Ok.put hL hs1 hC hT hK ?_⟩
        have e := Int8.toInt_toInt32 x.toInt8
        have h1 := Int8.le_toInt x.toInt8
        have h2 := Int8.toInt_lt x.toInt8
        exact ⟨by omega, by omega⟩
      · cases h
    · cases h
  case i2l =>
    simp only [af_step] at h
    split at h
    · rename_i hlen; subst hlen
      split at h
      · cases h
        obtain ⟨x, vs1, rfl, hf, hx, hs1⟩ := st_i hs
        exact ⟨_, rfl, af_Ok.push hL hs1 hC hT hK ⟨_, rfl⟩⟩
      · cases h
    · cases h
  case ladd =>
    simp only [af_step] at h
    split at h
    · rename_i hlen; subst hlen
      split at h
      · cases h
        obtain ⟨y, vs1, rfl, hs1⟩ := st_l hs
        obtain ⟨x, vs2, rfl, hs2⟩ := st_l hs1
        exact ⟨_, rfl, af_Ok.push hL hs2 hC hT hK ⟨_, rfl⟩⟩
      · cases h
    · cases h
  case lmul =>
    simp only [af_step] at h
    split at h
    · rename_i hlen; subst hlen
      split at h
      · cases h
        obtain ⟨y, vs1, rfl, hs1⟩ := st_l hs
        obtain ⟨x, vs2, rfl, hs2⟩ := st_l hs1
        exact ⟨_, rfl, af_Ok.push hL hs2 hC hT hK ⟨_, rfl⟩⟩
      · cases h
    · cases h
  case lor =>
    simp only [af_step] at h
    split at h
    · rename_i hlen; subst hlen
      split at h
      · cases h
        obtain ⟨y, vs1, rfl, hs1⟩ := st_l hs
        obtain ⟨x, vs2, rfl, hs2⟩ := st_l hs1
        exact ⟨_, rfl, af_Ok.push hL hs2 hC hT hK ⟨_, rfl⟩⟩
      · cases h
    · cases h
  case lshl =>
    simp only [af_step] at h
    split at h
    · rename_i hlen; subst hlen
      split at h
      · cases h
        obtain ⟨y, vs1, rfl, hg, hy, hs1⟩ := st_i hs
        obtain ⟨x, vs2, rfl, hs2⟩ := st_l hs1
        exact ⟨_, rfl, af_Ok.push hL hs2 hC hT hK ⟨_, rfl⟩⟩
      · cases h
    · cases h
  case lcmp =>
    simp only [af_step] at h
    split at h
    · rename_i hlen; subst hlen
      split at h
      · cases h
        obtain ⟨y, vs1, rfl, hs1⟩ := st_l hs
        obtain ⟨x, vs2, rfl, hs2⟩ := st_l hs1
        refine ⟨_, rfl, af_Ok.put hL hs2 hC hT hK ?_⟩
        unfold lg_cmp
        repeat' split
        all_goals exact ⟨by decide, by decide⟩
      · cases h
    · cases h
  case dup =>
    simp only [af_step] at h
    split at h
    · rename_i hlen; subst hlen
      split at h
      · cases h
        obtain ⟨x, vs1, rfl, hf, hx, hs1⟩ := st_i hs
        exact ⟨_, rfl, af_Ok.push hL ⟨⟨hf, x, rfl, hx⟩, hs1⟩ hC hT hK ⟨hf, x, rfl, hx⟩⟩
      · cases h
        obtain ⟨vs1, rfl, hs1⟩ := st_r hs
        exact ⟨_, rfl, af_Ok.push hL ⟨rfl, hs1⟩ hC hT hK rfl⟩
      · cases h
    · cases h
  case pop =>
    simp only [af_step] at h
    split at h
    · rename_i hlen; subst hlen
      split at h
      · cases h
        obtain ⟨x, vs1, rfl, hf, hx, hs1⟩ := st_i hs
        exact ⟨_, rfl, af_Ok.same hL hs1 hC hT hK⟩
      · cases h
        obtain ⟨vs1, rfl, hs1⟩ := st_r hs
        exact ⟨_, rfl, af_Ok.same hL hs1 hC hT hK⟩
      · cases h
    · cases h
  case dup2 =>
    simp only [af_step] at h
    split at h
    · rename_i hlen; subst hlen
      split at h
      · cases h
        obtain ⟨x, vs1, rfl, hf, hx, hs1⟩ := st_i hs
        obtain ⟨vs2, rfl, hs2⟩ := st_r hs1
        exact ⟨_, rfl, af_Ok.push hL ⟨rfl, ⟨hf, x, rfl, hx⟩, rfl, hs2⟩ hC hT hK ⟨hf, x, rfl, hx⟩⟩
      · cases h
    · cases h
  case ifCond cd off =>
    simp only [af_step] at h
    split at h
    · rename_i hlen; subst hlen
      split at h
      · rename_i f r t ht
        cases h
        obtain ⟨x, vs1, rfl, hf, hx, hs1⟩ := st_i hs
        refine ⟨(if pi_cmp cd x 0 = true then t else pc + 3, lv, vs1, w), ?_, af_br_ok hL hs1 hC hT hK hf (af_wf_c n 0) hx (by rw [af_ev_c]; rfl)⟩
        simp only [pi_step, ht, if_true]
        split <;> rfl
      · cases h
    · cases h
  case if_icmp cd off =>
    simp only [af_step] at h
    split at h
    · rename_i hlen; subst hlen
      split at h
      · rename_i g f r t ht
        cases h
        obtain ⟨y, vs1, rfl, hg, hy, hs1⟩ := st_i hs
        obtain ⟨x, vs2, rfl, hf, hx, hs2⟩ := st_i hs1
        refine ⟨(if pi_cmp cd x y = true then t else pc + 3, lv, vs2, w), ?_, af_br_ok hL hs2 hC hT hK hf hg hx hy⟩
        simp only [pi_step, ht, if_true]
        split <;> rfl
      · cases h
    · cases h
  case goto off =>
    simp only [af_step] at h
    split at h
    · rename_i hlen; subst hlen
      split at h
      · rename_i t ht
        cases h
        refine ⟨(t, lv, st, w), ?_, af_Ok.same hL hs hC hT hK⟩
        simp only [pi_step, ht, if_true, pi_jump]
      · cases h
    · cases h
  case tableswitch dflt lo hi offs =>
    simp only [af_step] at h
    split at h
    · rename_i f r
      split at h
      · rename_i hsz
        obtain ⟨x, vs1, rfl, hf, hx, hs1⟩ := st_i hs
        obtain ⟨R1, R2, R3, e1, e2, e3, rfl⟩ := af_app3_of h
        by_cases hlo : x.toInt < lo
        · obtain ⟨N1, c1, k1⟩ := af_clip_ok hK hf (lo := af_lo) (hi := lo - 1) (by rw [← hx]; exact (af_i32 x).1) (by omega)
          rw [c1] at e2
          obtain ⟨t, ht, rfl⟩ := af_one_of e2
          refine ⟨(t, lv, vs1, w), ?_, af_Fr.rf M w, (t, n, L, r, T, N1), by simp, rfl, Nat.le_refl _, ρ, af_ag.rf _ _, hL, hs1, hC, hT, k1⟩
          simp only [pi_step, hlo, true_or, if_true, ht, pi_jump]
        · by_cases hhi : hi < x.toInt
          · obtain ⟨N1, c1, k1⟩ := af_clip_ok hK hf (lo := hi + 1) (hi := af_hi) (by omega) (by rw [← hx]; exact (af_i32 x).2)
            rw [c1] at e3
            obtain ⟨t, ht, rfl⟩ := af_one_of e3
            refine ⟨(t, lv, vs1, w), ?_, af_Fr.rf M w, (t, n, L, r, T, N1), by simp, rfl, Nat.le_refl _, ρ, af_ag.rf _ _, hL, hs1, hC, hT, k1⟩
            simp only [pi_step, hhi, or_true, if_true, ht, pi_jump]
          · have hj : (x.toInt - lo).toNat < offs.size := by omega
            have ho : offs[(x.toInt - lo).toNat]? = some offs[(x.toInt - lo).toNat] := Array.getElem?_eq_getElem hj
            obtain ⟨t, ht, N1, hm, k1⟩ := af_tsw_ok hL hs1 hC hT hK hf hx e1 (x.toInt - lo).toNat offs[(x.toInt - lo).toNat] (by rw [Array.getElem?_toList]; exact ho) (by omega)
            refine ⟨(t, lv, vs1, w), ?_, af_Fr.rf M w, (t, n, L, r, T, N1), List.mem_append_left _ hm, rfl, Nat.le_refl _, ρ, af_ag.rf _ _, hL, hs1, hC, hT, k1⟩
            simp only [pi_step, hlo, hhi, or_self, if_false, ho, ht, pi_jump]
      · cases h
    · cases h
  case lookupswitch dflt ps =>
    simp only [af_step] at h
    split at h
    · rename_i f r
      split at h
      · rename_i hsz
        obtain ⟨x, vs1, rfl, hf, hx, hs1⟩ := st_i hs
        obtain ⟨R1, R2, R3, e1, e2, e3, rfl⟩ := af_app3_of h
        rcases af_lsw_ok hL hs1 hC hT hK hf hx dflt e1 with ⟨t, ht, N1, hm, k1⟩ | hd
        · refine ⟨(t, lv, vs1, w), ?_, af_Fr.rf M w, (t, n, L, r, T, N1), List.mem_append_left _ hm, rfl, Nat.le_refl _, ρ, af_ag.rf _ _, hL, hs1, hC, hT, k1⟩
          simp only [pi_step, hsz, if_true, ht, pi_jump]
        · obtain ⟨t, ht, rfl⟩ := af_one_of e2
          refine ⟨(t, lv, vs1, w), ?_, af_Fr.rf M w, (t, n, L, r, T, N), by simp, rfl, Nat.le_refl _, ρ, af_ag.rf _ _, hL, hs1, hC, hT, hK⟩
          simp only [pi_step, hsz, if_true, hd, ht, pi_jump]
      · cases h
    · cases h
  case iaload =>
    simp only [af_step] at h
    split at h
    · rename_i hlen; subst hlen
      split at h
      · rename_i f a r
        obtain ⟨i, vs1, rfl, hf, hi, hs1⟩ := st_i hs
        obtain ⟨vs2, rfl, hs2⟩ := st_r hs1
        split at h
        · rename_i m S hSh
          obtain ⟨e, he, hoc⟩ := hC.at hSh
          obtain ⟨fn, rfl, hfn⟩ := af_okA.int (by decide) hoc
          split at h
          · cases h
          · rename_i x y hix
            obtain ⟨g1, g2, g3, g4, g5⟩ := af_idx_ok hK hix hi
            obtain ⟨q, q1, q2, q3⟩ := hfn _ g4
            have hstep : pi_step own ini nL .iaload 1 (pc, lv, .int i :: .ref a :: vs2, w) = some (pc + 1, lv, .int (fn i.toNatClampNeg) :: vs2, w) := by
              simp only [pi_step, he, g1, if_true, if_false]
            refine ⟨_, hstep, ?_⟩
            split at h
            · rename_i hxy
              split at h
              · cases h
              · rename_i lo2 hi2 hsg
                cases h
                have hj : i.toNatClampNeg = x := by omega
                rw [hj] at q1 q2 q3 ⊢
                rw [hsg] at q1
                cases q1
                refine af_rd hL hs2 hC hT hK (hC.lt hSh) ?_ q2 q3
                unfold af_wloc
                rw [he]
                simp only [af_cloc]
                rw [if_pos (by omega)]
            · split at h
              · cases h
              · rename_i lo2 hi2 hjn
                cases h
                have r := af_join_ok hjn _ g2 g3 q q1
                obtain ⟨s1, s2, s3, s4, s5⟩ := af_fresh (pc' := pc + 1) (lo := lo2) (hi := hi2) (x := fn i.toNatClampNeg) hL hs2 hC hT hK (by omega) (by omega)
                have ha := af_upd_ag ρ n (fn i.toNatClampNeg).toInt
                refine af_Ok.one (af_Fr.rf M w) rfl (Nat.le_succ n) ⟨_, ha, s1, s2, s3, s4, s5.1, s5.2.1, ?_⟩
                intro e' he'
                rcases List.mem_cons.mp he' with rfl | he'
                · refine ⟨Nat.lt_succ_self n, hf.mono (Nat.le_succ n), m, S, q, hSh, ?_, ?_, ?_, ?_⟩
                  · rw [af_ev_ag hf ha, ← hi]; omega
                  · rw [af_ev_ag hf ha, ← hi, ← g5]; exact q1
                  · rw [af_upd_at]; exact q2
                  · rw [af_upd_at]; exact q3
                · exact s5.2.2 e' he'
        · cases h
      · cases h
    · cases h
  case baload =>
    simp only [af_step] at h
    split at h
    · rename_i hlen; subst hlen
      split at h
      · rename_i f a r
        obtain ⟨i, vs1, rfl, hf, hi, hs1⟩ := st_i hs
        obtain ⟨vs2, rfl, hs2⟩ := st_r hs1
        split at h
        · rename_i t m S hSh
          split at h
          · rename_i ht
            obtain ⟨e, he, hoc⟩ := hC.at hSh
            obtain ⟨fn, rfl, hfn⟩ := af_okA.int (by omega) hoc
            split at h
            · cases h
            · rename_i x y hix
              obtain ⟨g1, g2, g3, g4, g5⟩ := af_idx_ok hK hix hi
              obtain ⟨q, q1, q2, q3⟩ := hfn _ g4
              have hstep : pi_step own ini nL .baload 1 (pc, lv, .int i :: .ref a :: vs2, w) = some (pc + 1, lv, .int (fn i.toNatClampNeg) :: vs2, w) := by
                rcases ht with rfl | rfl
                · simp only [pi_step, he, g1, if_true, if_false]
                · simp only [pi_step, he, g1, if_true, if_false]
              refine ⟨_, hstep, ?_⟩
              split at h
              · rename_i hxy
                split at h
                · cases h
                · rename_i lo hi hsg
                  cases h
                  have hj : i.toNatClampNeg = x := by omega
                  rw [hj] at q1 q2 q3 ⊢
                  rw [hsg] at q1
                  cases q1
                  refine af_rd hL hs2 hC hT hK (hC.lt hSh) ?_ q2 q3
                  unfold af_wloc
                  rw [he]
                  simp only [af_cloc]
                  rw [if_pos (by omega)]
              · split at h
                · cases h
                · rename_i lo hi hjn
                  cases h
                  have r := af_join_ok hjn _ g2 g3 q q1
                  exact af_Ok.put hL hs2 hC hT hK ⟨by omega, by omega⟩
          · cases h
        · cases h
      · cases h
    · cases h
  case laload =>
    simp only [af_step] at h
    split at h
    · rename_i hlen; subst hlen
      split at h
      · rename_i f a r
        obtain ⟨i, vs1, rfl, hf, hi, hs1⟩ := st_i hs
        obtain ⟨vs2, rfl, hs2⟩ := st_r hs1
        split at h
        · rename_i m S hSh
          obtain ⟨e, he, hoc⟩ := hC.at hSh
          obtain ⟨fn, rfl⟩ := af_okA.lng hoc
          split at h
          · cases h
          · rename_i q hix
            cases h
            obtain ⟨g1, g2, g3, g4, g5⟩ := af_idx_ok (a := q.1) (b := q.2) hK hix hi
            refine ⟨(pc + 1, lv, .long (fn i.toNatClampNeg) :: vs2, w), ?_, af_Ok.push hL hs2 hC hT hK ⟨_, rfl⟩⟩
            simp only [pi_step, he, g1, if_true, if_false]
        · cases h
      · cases h
    · cases h
  case arraylength =>
    simp only [af_step] at h
    split at h
    · rename_i hlen; subst hlen
      split at h
      · rename_i a r
        obtain ⟨vs1, rfl, hs1⟩ := st_r hs
        split at h
        · rename_i t m S hSh
          split at h
          · rename_i hm
            cases h
            obtain ⟨e, he, hoc⟩ := hC.at hSh
            have he2 : t < 4 ∧ ∃ g, e = .inl (t, m, g) := by
              by_cases ht : t = 2
              · subst ht
                obtain ⟨fn, rfl⟩ := af_okA.lng hoc
                exact ⟨by decide, _, rfl⟩
              · have h4 : t < 4 := by
                  have h5 : af_okA t m S e := hoc
                  unfold af_okA at h5
                  rw [if_neg ht] at h5
                  exact h5.1
                obtain ⟨fn, rfl, -⟩ := af_okA.int ht hoc
                exact ⟨h4, _, rfl⟩
            obtain ⟨h4, g, rfl⟩ := he2
            refine ⟨(pc + 1, lv, .int (Int32.ofNat m) :: vs1, w), ?_, af_Ok.push hL hs1 hC hT hK ⟨af_wf_c _ _, _, rfl, ?_⟩⟩
            · simp only [pi_step, he, h4, if_true]
            · rw [af_ev_c]
              unfold af_hi at hm
              exact nI_toInt (by omega)
          · cases h
        · cases h
      · cases h
    · cases h
  case iastore =>
    simp only [af_step] at h
    split at h
    · rename_i hlen; subst hlen
      split at h
      · rename_i g f a r
        obtain ⟨v, vs0, rfl, hg, hv, hs0⟩ := st_i hs
        obtain ⟨i, vs1, rfl, hf, hie, hs1⟩ := st_i hs0
        obtain ⟨vs2, rfl, hs2⟩ := st_r hs1
        split at h
        · rename_i m S hSh
          obtain ⟨e, he, hoc⟩ := hC.at hSh
          obtain ⟨fn, rfl, hfn⟩ := af_okA.int (by decide) hoc
          split at h
          · rename_i x y lo2 hi2 hix hiv
            split at h
            · rename_i hcond
              cases h
              obtain ⟨g1, g2, g3, g4, g5⟩ := af_idx_ok hK hix hie
              have hb := af_iv_ok hK hiv
              have hval : ∀ q, af_seg S i.toNatClampNeg = some q → q.1 ≤ v.toInt ∧ v.toInt ≤ q.2 := by
                rcases hcond.1 with hfit | hor
                · intro q hq
                  have hh := af_fitS_ok hfit _ g2 g3 q hq
                  omega
                · exact af_orig_ok hK hor g2 g3 hv (by omega)
              refine ⟨(pc + 1, lv, vs2, w.set a (.inl (0, m, .inl (upd fn i.toNatClampNeg v)))), ?_, af_wr hL hs2 hC hT hK hSh he (af_okA.upd (by decide) (by decide) hfn hval) af_cloc_upd g2 g3 hcond.2 ?_⟩
              · simp only [pi_step, he, g1, if_true, if_false]
              · split
                · rename_i hxy
                  exact Or.inr ⟨g, v, rfl, hxy.1, af_cloc_at g4, hg, hv⟩
                · exact Or.inl rfl
            · cases h
          · cases h
        · cases h
      · cases h
    · cases h
  case bastore =>
    simp only [af_step] at h
    split at h
    · rename_i hlen; subst hlen
      split at h
      · rename_i g f a r
        obtain ⟨v, vs0, rfl, hg, hv, hs0⟩ := st_i hs
        obtain ⟨i, vs1, rfl, hf, hie, hs1⟩ := st_i hs0
        obtain ⟨vs2, rfl, hs2⟩ := st_r hs1
        split at h
        · rename_i m S hSh
          obtain ⟨e, he, hoc⟩ := hC.at hSh
          obtain ⟨fn, rfl, hfn⟩ := af_okA.int (by decide) hoc
          split at h
          · rename_i x y hix
            split at h
            · rename_i hcond
              cases h
              obtain ⟨g1, g2, g3, g4, g5⟩ := af_idx_ok hK hix hie
              refine ⟨(pc + 1, lv, vs2, w.set a (.inl (1, m, .inl (upd fn i.toNatClampNeg (vp_nar .byte v))))), ?_, af_wr hL hs2 hC hT hK hSh he (af_okA.upd (by decide) (by decide) hfn ?_) af_cloc_upd g2 g3 hcond.2 (Or.inl rfl)⟩
              · simp only [pi_step, he, g1, if_true, if_false]
              · intro q hq
                have hh := af_fitS_ok hcond.1 _ g2 g3 q hq
                have h8 := af_b8 v
                omega
            · cases h
          · cases h
        · rename_i m S hSh
          obtain ⟨e, he, hoc⟩ := hC.at hSh
          obtain ⟨fn, rfl, hfn⟩ := af_okA.int (by decide) hoc
          split at h
          · rename_i x y lo2 hi2 hix hiv
            split at h
            · rename_i hcond
              cases h
              obtain ⟨g1, g2, g3, g4, g5⟩ := af_idx_ok hK hix hie
              have hb := af_iv_ok hK hiv
              have hz : vp_nar .boolean v = v := af_z1 (by omega) (by omega)
              refine ⟨(pc + 1, lv, vs2, w.set a (.inl (3, m, .inl (upd fn i.toNatClampNeg v)))), ?_, af_wr hL hs2 hC hT hK hSh he (af_okA.upd (by decide) (by decide) hfn ?_) af_cloc_upd g2 g3 hcond.2.2.2 ?_⟩
              · simp only [pi_step, he, g1, hz, if_true, if_false]
              · intro q hq
                have hh := af_fitS_ok hcond.1 _ g2 g3 q hq
                omega
              · split
                · rename_i hxy
                  exact Or.inr ⟨g, v, rfl, hxy.1, af_cloc_at g4, hg, hv⟩
                · exact Or.inl rfl
            · cases h
          · cases h
        · cases h
      · cases h
    · cases h
  case lastore =>
    simp only [af_step] at h
    split at h
    · rename_i hlen; subst hlen
      split at h
      · rename_i u f a r
        obtain ⟨v, vs0, rfl, hs0⟩ := st_l hs
        obtain ⟨i, vs1, rfl, hf, hie, hs1⟩ := st_i hs0
        obtain ⟨vs2, rfl, hs2⟩ := st_r hs1
        split at h
        · rename_i m S hSh
          obtain ⟨e, he, hoc⟩ := hC.at hSh
          obtain ⟨fn, rfl⟩ := af_okA.lng hoc
          split at h
          · rename_i x y hix
            split at h
            · rename_i hcond
              cases h
              obtain ⟨g1, g2, g3, g4, g5⟩ := af_idx_ok hK hix hie
              refine ⟨(pc + 1, lv, vs2, w.set a (.inl (2, m, .inr (.inl (vp_updL fn i.toNatClampNeg v))))), ?_, af_wrL hL hs2 hC hT hK hSh he ?_ ?_ g2 g3 hcond ⟨fn i.toNatClampNeg, by simp only [af_cloc, if_pos g4]⟩ ⟨v, by simp only [af_cloc, vp_updL, if_pos g4, if_true]⟩⟩
              · simp only [pi_step, he, g1, if_true, if_false]
              · show af_okA 2 m S _
                unfold af_okA
                rw [if_pos rfl]
                exact ⟨_, rfl⟩
              · intro i' hi'
                simp only [af_cloc, vp_updL, if_neg hi']
            · cases h
          · cases h
        · cases h
      · cases h
    · cases h
  case getfield cp =>
    simp only [af_step] at h
    split at h
    · rename_i hlen; subst hlen
      split at h
      · rename_i a r
        obtain ⟨vs1, rfl, hs1⟩ := st_r hs
        split at h
        · rename_i ci k u hlk
          split at h
          · rename_i c fts hSh
            split at h
            · rename_i hc; subst hc
              obtain ⟨e, he, hoc⟩ := hC.at hSh
              obtain ⟨fs, rfl, hln, hfs⟩ := hoc
              have hstep : ∀ v, fs[k]? = some v → pi_step own ini nL (.getfield cp) 3 (pc, lv, .ref a :: vs1, w) = some (pc + 3, lv, v :: vs1, w) := by
                intro v hv
                simp only [pi_step, hlk, he, hv, if_true]
              split at h
              · rename_i b hft
                cases h
                obtain ⟨v, hv, ho⟩ := hfs k _ hft
                have ho2 : v = .ref b := ho
                subst ho2
                exact ⟨_, hstep _ hv, af_Ok.push hL hs1 hC hT hK rfl⟩
              · rename_i lo2 hi2 hft
                cases h
                obtain ⟨v, hv, x, rfl, q1, q2⟩ := hfs k _ hft
                exact ⟨_, hstep _ hv, af_rd hL hs1 hC hT hK (hC.lt hSh) (by unfold af_wloc; rw [he]; exact hv) q1 q2⟩
              · rename_i hft
                cases h
                obtain ⟨v, hv, x, rfl⟩ := hfs k _ hft
                exact ⟨_, hstep _ hv, af_Ok.push hL hs1 hC hT hK ⟨_, rfl⟩⟩
              · cases h
            · cases h
          · cases h
        · cases h
      · cases h
    · cases h
  case putfield cp =>
    simp only [af_step] at h
    split at h
    · rename_i hlen; subst hlen
      split at h
      · rename_i g a r
        obtain ⟨v, vs0, rfl, hg, hv, hs0⟩ := st_i hs
        obtain ⟨vs1, rfl, hs1⟩ := st_r hs0
        split at h
        · rename_i ci k u hlk
          split at h
          · rename_i c fts lo2 hi2 hSh hiv
            split at h
            · rename_i hc
              obtain ⟨rfl, hfin, hM⟩ := hc
              split at h
              · rename_i l hh hft
                split at h
                · rename_i hr
                  cases h
                  obtain ⟨e, he, hoc⟩ := hC.at hSh
                  obtain ⟨fs, rfl, hln, hfs⟩ := hoc
                  have hb := af_iv_ok hK hiv
                  have hkl : k < fs.length := by rw [hln]; exact (List.getElem?_eq_some_iff.mp hft).1
                  have hnf : narrow (pi_ty c k) (.int v) = .int v ∧ fits (pi_ty c k) (.int v) = true := by
                    rcases hr.2.2 with hty | hty
                    · rw [hty]; exact ⟨rfl, rfl⟩
                    · rw [hty.1]; exact ⟨af_nz (by omega) (by omega), af_ft (by omega) (by omega)⟩
                  refine ⟨(pc + 3, lv, vs1, w.set a (.inr (c, fs.set k (.int v)))), ?_, af_wr hL hs1 hC hT hK hSh he (e := .inr (c, fs.set k (.int v))) (j := k) ?_ ?_ (Nat.le_refl k) (Nat.le_refl k) hM (Or.inr ⟨g, v, rfl, rfl, ?_, hg, hv⟩)⟩
                  · simp only [pi_step, hlk, he]
                    rw [if_pos trivial, if_pos ⟨trivial, hkl, hnf.1, hnf.2, Or.inr hfin⟩]
                  · exact af_okO_set hln hfs hft ⟨v, rfl, by omega, by omega⟩
                  · intro i' hi'
                    simp only [af_cloc]
                    exact List.getElem?_set_ne (fun q => hi' q.symm)
                  · simp only [af_cloc]
                    exact List.getElem?_set_self hkl
                · cases h
              · cases h
            · cases h
          · cases h
        · cases h
      · rename_i u a r
        obtain ⟨v, vs0, rfl, hs0⟩ := st_l hs
        obtain ⟨vs1, rfl, hs1⟩ := st_r hs0
        split at h
        · rename_i ci k u2 hlk
          split at h
          · rename_i c fts hSh
            split at h
            · rename_i hc
              obtain ⟨rfl, hfin, hM, hty⟩ := hc
              split at h
              · rename_i hft
                cases h
                obtain ⟨e, he, hoc⟩ := hC.at hSh
                obtain ⟨fs, rfl, hln, hfs⟩ := hoc
                have hkl : k < fs.length := by rw [hln]; exact (List.getElem?_eq_some_iff.mp hft).1
                have hnf : narrow (pi_ty c k) (.long v) = .long v ∧ fits (pi_ty c k) (.long v) = true := by rw [hty]; exact ⟨rfl, rfl⟩
                refine ⟨(pc + 3, lv, vs1, w.set a (.inr (c, fs.set k (.long v)))), ?_, af_wrL hL hs1 hC hT hK hSh he (e := .inr (c, fs.set k (.long v))) (j := k) ?_ ?_ (Nat.le_refl k) (Nat.le_refl k) hM ?_ ⟨v, List.getElem?_set_self hkl⟩⟩
                · simp only [pi_step, hlk, he]
                  rw [if_pos trivial, if_pos ⟨trivial, hkl, hnf.1, hnf.2, Or.inr hfin⟩]
                · exact af_okO_set hln hfs hft ⟨v, rfl⟩
                · intro i' hi'
                  simp only [af_cloc]
                  exact List.getElem?_set_ne (fun q => hi' q.symm)
                · obtain ⟨v0, hv0, x0, rfl⟩ := hfs k _ hft
                  exact ⟨x0, hv0⟩
              · cases h
            · cases h
          · cases h
        · cases h
      · cases h
    · cases h
  all_goals exact absurd h (by simp [af_step])
end AFS
end
section
/-! ===== deeper does no harm ===== -/
theorem pi_deep_1 {n d : Nat} {mi : pi_M} {s : pi_S} {cu su : Nat} {res : pi_R} (ih : ∀ (d : Nat) (mi : pi_M) (s : pi_S) (cu su : Nat) (res : pi_R), pi_run n d mi s cu su = some res → pi_run n (d + 1) mi s cu su = some res) (h : pi_run (n + 1) d mi s cu su = some res) : pi_run (n + 1) (d + 1) mi s cu su = some res := by
  rw [pi_run] at h
  split at h
  · cases h
  · rename_i i len hf
    split at h
    · rename_i hE
      rw [pi_run, hf]
      dsimp only
      rw [if_pos hE]
      exact h
    · rename_i hE
      split at h
      · rename_i cp kinds hi
        split at h
        · cases h
        · rename_i kind z na q hl
          split at h
          · cases h
          · rename_i hk
            split at h
            · rename_i h3
              split at h
              · cases h
              · rename_i h5
                split at h
                · cases h
                · rename_i s' hs
                  rw [pi_run, hf]
                  dsimp only
                  rw [if_neg hE, hi]
                  dsimp only
                  rw [hl]
                  dsimp only
                  rw [if_neg hk, if_pos h3, if_neg (fun q => h5 ⟨Nat.lt_of_succ_lt q.1, q.2⟩), hs]
                  exact ih _ _ _ _ _ _ h
            · rename_i h3
              split at h
              · rename_i d' y cc mz hz
                split at h
                · cases h
                · rename_i As rest ha
                  split at h
                  · cases h
                  · rename_i r w' c' u' hr
                    split at h
                    · rename_i hkp
                      rw [pi_run, hf]
                      dsimp only
                      rw [if_neg hE, hi]
                      dsimp only
                      rw [hl]
                      dsimp only
                      rw [if_neg hk, if_neg h3, hz]
                      dsimp only
                      rw [ha]
                      dsimp only
                      rw [ih _ _ _ _ _ _ hr]
                      dsimp only
                      rw [if_pos hkp]
                      exact ih _ _ _ _ _ _ h
                    · cases h
              · cases h
      · rename_i hi
        split at h
        · rename_i hN
          split at h
          · cases h
          · rename_i s' k hs
            rw [pi_run, hf]
            dsimp only
            rw [if_neg hE, hi]
            dsimp only
            rw [if_pos hN, hs]
            exact ih _ _ _ _ _ _ h
        · rename_i hN
          split at h
          · cases h
          · rename_i s' hs
            rw [pi_run, hf]
            dsimp only
            rw [if_neg hE, hi]
            dsimp only
            rw [if_neg hN, hs]
            exact ih _ _ _ _ _ _ h
theorem pi_deep_s : ∀ (n d : Nat) (mi : pi_M) (s : pi_S) (cu su : Nat) (res : pi_R), pi_run n d mi s cu su = some res → pi_run n (d + 1) mi s cu su = some res
  | 0, _, _, _, _, _, _, h => by cases h
  | n + 1, _, _, _, _, _, _, h => pi_deep_1 (pi_deep_s n) h
theorem pi_deep {n d k : Nat} {mi : pi_M} {s : pi_S} {cu su : Nat} {res : pi_R} (h : pi_run n d mi s cu su = some res) (hk : d ≤ k) : pi_run n k mi s cu su = some res := by
  obtain ⟨j, rfl⟩ := Nat.le.dest hk
  clear hk
  induction j with
  | zero => exact h
  | succ j ih => exact pi_deep_s _ _ _ _ _ _ _ ih
/-! ===== patterns ===== -/
def af_Tw (n E : Nat) (θ : af_X) : Prop := ∀ v f, af_th E θ v = some f → af_wf n f
def af_Ex (E : Nat) (θ θ' : af_X) : Prop := ∀ v f, af_th E θ v = some f → af_th E θ' v = some f
def af_Th (ρ : Nat → Int) (E : Nat) (θ : af_X) (ρ' : Nat → Int) : Prop := ∀ v f, af_th E θ v = some f → ρ' v = af_ev ρ f
section AFM
variable {Sh : af_H} {n E : Nat} {ρ ρ' : Nat → Int} {θ θ' : af_X} {g : Nat → Option af_F} {N : af_N} {w : pi_W}
theorem af_Ex.rf (E : Nat) (θ : af_X) : af_Ex E θ θ := fun _ _ q => q
theorem af_Ex.tr {θ1 θ2 θ3 : af_X} (h : af_Ex E θ1 θ2) (h' : af_Ex E θ2 θ3) : af_Ex E θ1 θ3 := fun v f q => h' v f (h v f q)
theorem af_Th.of (h' : af_Th ρ E θ' ρ') (h : af_Ex E θ θ') : af_Th ρ E θ ρ' := fun v f q => h' v f (h v f q)
theorem af_sbs_ok (hg : ∀ v f, g v = some f → ρ' v = af_ev ρ f) : ∀ {vs : List Nat} {f : af_F}, af_sbs g vs = some f → (vs.map ρ').sum = af_ev ρ f
  | [], f, h => by
    cases h
    rfl
  | v :: vs, f, h => by
    unfold af_sbs at h
    split at h
    · cases h
    · rename_i f1 h1
      split at h
      · cases h
      · rename_i f2 h2
        cases h
        rw [List.map_cons, List.sum_cons, hg v f1 h1, af_sbs_ok hg h2, af_ev_add]
theorem af_sb_ok {p f : af_F} (hg : ∀ v f, g v = some f → ρ' v = af_ev ρ f) (h : af_sb g p = some f) : af_ev ρ' p = af_ev ρ f := by
  unfold af_sb at h
  split at h
  · cases h
  · rename_i k hk
    cases h
    have e := af_sbs_ok hg hk
    have e1 : af_ev ρ' p = p.1 + (p.2.map ρ').sum := rfl
    have e2 : af_ev ρ k = k.1 + (k.2.map ρ).sum := rfl
    have e3 : af_ev ρ (p.1 + k.1, k.2) = p.1 + k.1 + (k.2.map ρ).sum := rfl
    omega
theorem af_sbs_wf : ∀ {vs : List Nat} {f : af_F}, (∀ v ∈ vs, ∀ f, g v = some f → af_wf n f) → af_sbs g vs = some f → af_wf n f
  | [], f, _, h => by
    cases h
    exact af_wf_c n 0
  | v :: vs, f, hg, h => by
    unfold af_sbs at h
    split at h
    · cases h
    · rename_i f1 h1
      split at h
      · cases h
      · rename_i f2 h2
        cases h
        exact af_wf_app (hg v List.mem_cons_self f1 h1) (af_sbs_wf (fun u hu => hg u (List.mem_cons_of_mem _ hu)) h2) _
theorem af_sb_wf {p f : af_F} (hg : ∀ v ∈ p.2, ∀ f, g v = some f → af_wf n f) (h : af_sb g p = some f) : af_wf n f := by
  unfold af_sb at h
  split at h
  · cases h
  · rename_i k hk
    cases h
    exact fun v hv => af_sbs_wf hg hk v hv
theorem af_m1_ok {p c : af_F} (hw : af_Tw n E θ) (hc : af_wf n c) (h : af_m1 E θ p c = some θ') : af_Ex E θ θ' ∧ af_Tw n E θ' ∧ ∀ ρ ρ', af_Th ρ E θ' ρ' → af_ev ρ' p = af_ev ρ c := by
  unfold af_m1 at h
  split at h
  · split at h
    · cases h
    · rename_i f hf
      split at h
      · rename_i hl
        cases h
        refine ⟨fun _ _ q => q, hw, fun ρ ρ' hT => ?_⟩
        have e1 := af_sb_ok hT hf
        have e2 := (af_less_ok (ρ := ρ) hl).1
        rw [af_ev_c] at e2
        omega
      · cases h
  · rename_i u hfl
    split at h
    · cases h
    · rename_i us hus
      split at h
      · cases h
      · rename_i f hf
        split at h
        · cases h
        · rename_i g hl
          cases h
          have hu : af_th E θ u = none := by
            have h0 : u ∈ p.2.filter (fun v => (af_th E θ v).isNone) := by rw [hfl]; exact List.mem_cons_self
            have h1 := (List.mem_filter.mp h0).2
            exact Option.isNone_iff_eq_none.mp h1
          have hu2 : ¬ u < E := by
            intro q
            unfold af_th at hu
            rw [if_pos q] at hu
            cases hu
          have hnew : af_th E ((u, g) :: θ) u = some g := by
            unfold af_th
            rw [if_neg hu2, af_thk, if_pos (by simp)]
          have hold : ∀ v, v ≠ u → af_th E ((u, g) :: θ) v = af_th E θ v := by
            intro v hv
            unfold af_th
            split
            · rfl
            · rw [af_thk, if_neg (by simpa using fun q => hv q.symm)]
          have hex : af_Ex E θ ((u, g) :: θ) := by
            intro v f' hv
            have hne : v ≠ u := by
              rintro rfl
              rw [hu] at hv
              cases hv
            rw [hold v hne]
            exact hv
          refine ⟨hex, ?_, fun ρ ρ' hT => ?_⟩
          · intro v f' hv
            by_cases hvu : v = u
            · subst hvu
              rw [hnew] at hv
              cases hv
              exact (af_less_ok (ρ := fun _ => 0) hl).2 n hc
            · rw [hold v hvu] at hv
              exact hw v f' hv
          · have e1 := af_sb_ok (hT.of hex) hf
            have e2 := (af_less_ok (ρ := ρ) hl).1
            have e3 := (af_erase_ok (ρ := ρ') hus).1
            have e4 := hT u g hnew
            have e5 : af_ev ρ' p = p.1 + (p.2.map ρ').sum := rfl
            have e6 : af_ev ρ' (p.1, us) = p.1 + (us.map ρ').sum := rfl
            omega
  · cases h
def af_wfV (n : Nat) (a : af_V) : Prop := match a with
  | .inl f => af_wf n f
  | _ => True
theorem af_mv_ok {p c : af_V} {v : Value} (hw : af_Tw n E θ) (hc : af_val n ρ c v) (h : af_mv E θ p c = some θ') : af_Ex E θ θ' ∧ af_Tw n E θ' ∧ ∀ ρ' k, af_Th ρ E θ' ρ' → af_wfV k p → af_val k ρ' p v := by
  match p, c, hc, h with
  | .inl f, .inl g, ⟨h1, x, h2, h3⟩, h =>
    have q := af_m1_ok hw h1 h
    exact ⟨q.1, q.2.1, fun ρ' k hT hk => ⟨hk, x, h2, by rw [q.2.2 ρ ρ' hT]; exact h3⟩⟩
  | .inr (.inl a), .inr (.inl b), hc, h =>
    simp only [af_mv] at h
    split at h
    · rename_i hab
      cases h
      subst hab
      exact ⟨af_Ex.rf _ _, hw, fun _ _ _ _ => hc⟩
    · cases h
  | .inr (.inr _), .inr (.inr _), hc, h =>
    cases h
    exact ⟨af_Ex.rf _ _, hw, fun _ _ _ _ => hc⟩
theorem af_mvs_ok : ∀ {ps cs : List af_V} {θ θ' : af_X} {vs : List Value}, af_Tw n E θ → af_St n ρ cs vs → af_mvs E θ ps cs = some θ' → af_Ex E θ θ' ∧ af_Tw n E θ' ∧ ∀ ρ' k, af_Th ρ E θ' ρ' → (∀ p ∈ ps, af_wfV k p) → af_St k ρ' ps vs
  | [], [], θ, θ', vs, hw, hs, h => by
    cases h
    match vs, hs with
    | [], _ => exact ⟨af_Ex.rf _ _, hw, fun _ _ _ _ => trivial⟩
  | p :: ps, c :: cs, θ, θ', vs, hw, hs, h => by
    simp only [af_mvs] at h
    split at h
    · cases h
    · rename_i θ1 h1
      match vs, hs with
      | v :: vs, ⟨hs1, hs2⟩ =>
        obtain ⟨a1, a2, a3⟩ := af_mv_ok hw hs1 h1
        obtain ⟨b1, b2, b3⟩ := af_mvs_ok a2 hs2 h
        exact ⟨a1.tr b1, b2, fun ρ' k hT hk => ⟨a3 ρ' k (hT.of b1) (hk p List.mem_cons_self), b3 ρ' k hT (fun q hq => hk q (List.mem_cons_of_mem _ hq))⟩⟩
  | [], _ :: _, _, _, _, _, _, h => by cases h
  | _ :: _, [], _, _, _, _, _, h => by cases h
theorem af_mL_ok {L : af_L} {lv : pi_L} (hL : af_Lo n ρ L lv) : ∀ {ps : af_L} {θ θ' : af_X}, af_Tw n E θ → af_mL E L θ ps = some θ' → af_Ex E θ θ' ∧ af_Tw n E θ' ∧ ∀ ρ' k, af_Th ρ E θ' ρ' → (∀ p ∈ ps, af_wfV k p.2) → af_Lo k ρ' ps lv
  | [], θ, θ', hw, h => by
    cases h
    exact ⟨af_Ex.rf _ _, hw, fun _ _ _ _ e he => by cases he⟩
  | (i, p) :: ps, θ, θ', hw, h => by
    simp only [af_mL] at h
    split at h
    · cases h
    · rename_i c hc
      obtain ⟨v, hv, hval⟩ := hL _ (af_getL_mem hc)
      split at h
      · cases h
      · rename_i θ1 h1
        obtain ⟨a1, a2, a3⟩ := af_mv_ok hw hval h1
        obtain ⟨b1, b2, b3⟩ := af_mL_ok hL a2 h
        refine ⟨a1.tr b1, b2, fun ρ' k hT hk e he => ?_⟩
        rcases List.mem_cons.mp he with rfl | he
        · exact ⟨v, hv, a3 ρ' k (hT.of b1) (hk _ List.mem_cons_self)⟩
        · exact b3 ρ' k hT (fun q hq => hk q (List.mem_cons_of_mem _ hq)) e he
theorem af_mT_ok {T : af_T} (hT : af_Sl n ρ T w) : ∀ {ps : af_T} {θ θ' : af_X}, af_Tw n E θ → af_mT E T θ ps = some θ' → af_Ex E θ θ' ∧ af_Tw n E θ' ∧ ∀ ρ' k, af_Th ρ E θ' ρ' → (∀ p ∈ ps, af_wf k p.2) → af_Sl k ρ' ps w
  | [], θ, θ', hw, h => by
    cases h
    exact ⟨af_Ex.rf _ _, hw, fun _ _ _ _ e he => by cases he⟩
  | ((c, i), p) :: ps, θ, θ', hw, h => by
    simp only [af_mT] at h
    split at h
    · cases h
    · rename_i g hg
      obtain ⟨k0, x, k1, k2⟩ := hT _ (af_getT_mem hg)
      split at h
      · cases h
      · rename_i θ1 h1
        obtain ⟨a1, a2, a3⟩ := af_m1_ok hw k0 h1
        obtain ⟨b1, b2, b3⟩ := af_mT_ok hT a2 h
        refine ⟨a1.tr b1, b2, fun ρ' k hT hk e he => ?_⟩
        rcases List.mem_cons.mp he with rfl | he
        · exact ⟨hk _ List.mem_cons_self, x, k1, by rw [a3 ρ ρ' (hT.of b1)]; exact k2⟩
        · exact b3 ρ' k hT (fun q hq => hk q (List.mem_cons_of_mem _ hq)) e he
theorem af_canc_ok {ρ : Nat → Int} : ∀ {vs us a b : List Nat}, af_canc us vs = (a, b) → (us.map ρ).sum - (vs.map ρ).sum = (a.map ρ).sum - (b.map ρ).sum
  | [], us, a, b, h => by
    unfold af_canc at h
    cases h
    rfl
  | v :: vs, us, a, b, h => by
    unfold af_canc at h
    rw [List.map_cons, List.sum_cons]
    split at h
    · rename_i us' hu
      have e1 := (af_erase_ok (ρ := ρ) hu).1
      have e2 := af_canc_ok (ρ := ρ) h
      omega
    · split at h
      rename_i a' b' hc
      cases h
      have e2 := af_canc_ok (ρ := ρ) hc
      rw [List.map_cons, List.sum_cons]
      omega
theorem af_dlook_mem : ∀ {D : List (Nat × Nat × Int)} {u v : Nat} {d : Int}, af_dlook D u v = some d → (u, v, d) ∈ D
  | [], _, _, _, h => by cases h
  | (a, b, e) :: D, u, v, d, h => by
    unfold af_dlook at h
    split at h
    · rename_i hj
      rw [Bool.and_eq_true, beq_iff_eq, beq_iff_eq] at hj
      obtain ⟨rfl, rfl⟩ := hj
      cases h
      exact List.mem_cons_self
    · exact List.mem_cons_of_mem _ (af_dlook_mem h)
theorem af_low2_ok (hK : af_Kn n ρ Sh N) {k d : Int} {us vs : List Nat} (h : af_low2 N k us vs = some d) : d ≤ k + (us.map ρ).sum - (vs.map ρ).sum := by
  unfold af_low2 at h
  split at h
  · rename_i a x y e h1 h2
    cases h
    have q1 := af_ivs_ok hK h1
    have q2 := af_ivs_ok hK h2
    omega
  · cases h
theorem af_low_ok (hK : af_Kn n ρ Sh N) {d : Int} {f g : af_F} (h : af_low N f g = some d) : d ≤ af_ev ρ f - af_ev ρ g := by
  have e1 : af_ev ρ f = f.1 + (f.2.map ρ).sum := rfl
  have e2 : af_ev ρ g = g.1 + (g.2.map ρ).sum := rfl
  unfold af_low at h
  split at h
  · rename_i u v hc
    have e := af_canc_ok (ρ := ρ) hc
    split at h
    · rename_i d' hd
      cases h
      have q := (hK.2.1 _ (af_dlook_mem hd)).2.2
      simp only [List.map_cons, List.map_nil, List.sum_cons, List.sum_nil] at e
      dsimp only at q
      omega
    · have q := af_low2_ok hK h
      omega
  · rename_i us vs hne hc
    have e := af_canc_ok (ρ := ρ) hc
    have q := af_low2_ok hK h
    omega
theorem af_mN_ok {P : af_N} {k : Nat} (hK : af_Kn n ρ Sh N) (hT : af_Th ρ E θ ρ') (h : af_mN E θ N P = true) (h1 : ∀ e ∈ P.1, e.1 < k) (h2 : ∀ e ∈ P.2.1, e.1 < k ∧ e.2.1 < k) : af_Kn k ρ' Sh P := by
  unfold af_mN at h
  rw [Bool.and_eq_true, Bool.and_eq_true] at h
  obtain ⟨⟨q1, q2⟩, q3⟩ := h
  refine ⟨fun e he => ⟨h1 e he, ?_⟩, fun e he => ⟨(h2 e he).1, (h2 e he).2, ?_⟩, fun e he => ?_⟩
  · have q := List.all_eq_true.mp q1 e he
    split at q
    · cases q
    · rename_i f hf
      split at q
      · cases q
      · rename_i a b hab
        rw [Bool.and_eq_true, decide_eq_true_eq, decide_eq_true_eq] at q
        have r := af_iv_ok hK hab
        rw [hT _ _ hf]
        omega
  · have q := List.all_eq_true.mp q3 e he
    split at q
    · cases q
    · rename_i f hf
      split at q
      · cases q
      · rename_i g hg
        split at q
        · cases q
        · rename_i d hd
          rw [decide_eq_true_eq] at q
          have r := af_low_ok hK hd
          rw [hT _ _ hf, hT _ _ hg]
          omega
  · rw [List.isEmpty_iff] at q2
    rw [q2] at he
    cases he
/-- all variables are among the first n -/
def af_wfb (n : Nat) (f : af_F) : Bool := f.2.all (fun v => Nat.blt v n)
def af_wfVb (n : Nat) (a : af_V) : Bool := match a with
  | .inl f => af_wfb n f
  | _ => true
def af_wfTb (n : Nat) (T : af_T) : Bool := T.all (fun e => af_wfb n e.2)
def af_wfNb (n : Nat) (N : af_N) : Bool := N.1.all (fun e => Nat.blt e.1 n) && N.2.1.all (fun e => Nat.blt e.1 n && Nat.blt e.2.1 n)
def af_wfQ (P : af_Q) : Bool := P.2.1.all (af_wfVb P.1) && (af_wfTb P.1 P.2.2.1 && af_wfNb P.1 P.2.2.2)
def af_wfS (P : af_S) : Bool := P.2.1.all (fun e => af_wfVb P.1 e.2) && (P.2.2.1.all (af_wfVb P.1) && (af_wfTb P.1 P.2.2.2.1 && af_wfNb P.1 P.2.2.2.2))
theorem af_wfb_ok {f : af_F} (h : af_wfb n f = true) : af_wf n f := fun v hv => by
  have q := List.all_eq_true.mp h v hv
  exact Nat.blt_eq.mp q
theorem af_wfVb_ok {a : af_V} (h : af_wfVb n a = true) : af_wfV n a := by
  match a, h with
  | .inl f, h => exact af_wfb_ok h
  | .inr _, _ => trivial
theorem af_wfTb_ok {T : af_T} (h : af_wfTb n T = true) : ∀ p ∈ T, af_wf n p.2 := fun p hp => af_wfb_ok (List.all_eq_true.mp h p hp)
theorem af_wfNb_ok {N : af_N} (h : af_wfNb n N = true) : (∀ e ∈ N.1, e.1 < n) ∧ ∀ e ∈ N.2.1, e.1 < n ∧ e.2.1 < n := by
  unfold af_wfNb at h
  rw [Bool.and_eq_true] at h
  refine ⟨fun e he => Nat.blt_eq.mp (List.all_eq_true.mp h.1 e he), fun e he => ?_⟩
  have q := List.all_eq_true.mp h.2 e he
  rw [Bool.and_eq_true] at q
  exact ⟨Nat.blt_eq.mp q.1, Nat.blt_eq.mp q.2⟩
theorem af_Tw.nil (hE : E ≤ n) : af_Tw n E [] := by
  intro v f h
  unfold af_th at h
  split at h
  · rename_i hv
    cases h
    intro u hu
    rcases List.mem_singleton.mp hu with rfl
    exact Nat.lt_of_lt_of_le hv hE
  · cases h
def af_rho (ρ : Nat → Int) (E : Nat) (θ : af_X) : Nat → Int := fun v => match af_th E θ v with
  | some f => af_ev ρ f
  | none => 0
theorem af_rho_th (ρ : Nat → Int) (E : Nat) (θ : af_X) : af_Th ρ E θ (af_rho ρ E θ) := fun v f h => by
  unfold af_rho
  rw [h]
theorem af_rho_ag (ρ : Nat → Int) (E : Nat) (θ : af_X) : af_ag E ρ (af_rho ρ E θ) := fun v hv => by
  unfold af_rho af_th
  rw [if_pos hv]
  simp [af_ev_1]
theorem af_mQ_ok {vs : List af_V} {vals : List Value} {T : af_T} {P : af_Q} (hE : E ≤ n) (hs : af_St n ρ vs vals) (hT : af_Sl n ρ T w) (hK : af_Kn n ρ Sh N) (h : af_mQ E vs T N P = some θ) (hP : af_wfQ P = true) : af_Tw n E θ ∧ af_St P.1 (af_rho ρ E θ) P.2.1 vals ∧ af_Sl P.1 (af_rho ρ E θ) P.2.2.1 w ∧ af_Kn P.1 (af_rho ρ E θ) Sh P.2.2.2 := by
  unfold af_wfQ at hP
  rw [Bool.and_eq_true, Bool.and_eq_true] at hP
  obtain ⟨p1, p2, p3⟩ := hP
  unfold af_mQ at h
  split at h
  · cases h
  · rename_i θ1 h1
    obtain ⟨a1, a2, a3⟩ := af_mvs_ok (af_Tw.nil hE) hs h1
    split at h
    · cases h
    · rename_i θ2 h2
      obtain ⟨b1, b2, b3⟩ := af_mT_ok hT a2 h2
      split at h
      · rename_i h3
        cases h
        have hth := af_rho_th ρ E θ
        exact ⟨b2, a3 _ _ (hth.of b1) (fun p hp => af_wfVb_ok (List.all_eq_true.mp p1 p hp)), b3 _ _ hth (af_wfTb_ok p2), af_mN_ok hK hth h3 (af_wfNb_ok p3).1 (af_wfNb_ok p3).2⟩
      · cases h
theorem af_mS_ok {σ P : af_S} {s : pi_S} (hE : E ≤ σ.1) (hS : af_Sat Sh ρ σ s) (h : af_mS E σ P = some θ) (hP : af_wfS P = true) : af_Tw σ.1 E θ ∧ af_Sat Sh (af_rho ρ E θ) P s := by
  obtain ⟨hL, hs, hC, hT, hK⟩ := hS
  unfold af_wfS at hP
  rw [Bool.and_eq_true, Bool.and_eq_true, Bool.and_eq_true] at hP
  obtain ⟨p0, p1, p2, p3⟩ := hP
  unfold af_mS at h
  split at h
  · cases h
  · rename_i θ0 h0
    obtain ⟨z1, z2, z3⟩ := af_mL_ok hL (af_Tw.nil hE) h0
    split at h
    · cases h
    · rename_i θ1 h1
      obtain ⟨a1, a2, a3⟩ := af_mvs_ok z2 hs h1
      split at h
      · cases h
      · rename_i θ2 h2
        obtain ⟨b1, b2, b3⟩ := af_mT_ok hT a2 h2
        split at h
        · rename_i h3
          cases h
          have hth := af_rho_th ρ E θ
          exact ⟨b2, z3 _ _ (hth.of (a1.tr b1)) (fun p hp => af_wfVb_ok (List.all_eq_true.mp p0 p hp)), a3 _ _ (hth.of b1) (fun p hp => af_wfVb_ok (List.all_eq_true.mp p1 p hp)), hC, b3 _ _ hth (af_wfTb_ok p2), af_mN_ok hK hth h3 (af_wfNb_ok p3).1 (af_wfNb_ok p3).2⟩
        · cases h
end AFM
end
section
/-! ===== contracts and calls ===== -/
def af_End (Sh : af_H) (E : Nat) (ρ : Nat → Int) (P : af_Q) (r : List Value) (w' : pi_W) : Prop := ∃ ρ', af_ag E ρ ρ' ∧ af_St P.1 ρ' P.2.1 r ∧ af_Sl P.1 ρ' P.2.2.1 w' ∧ af_Kn P.1 ρ' Sh P.2.2.2
def af_Holds (Sh : af_H) (d : Nat) (K : af_K) : Prop := (af_wfQ K.2.2.1 = true ∧ ∀ P ∈ K.2.2.2.2, af_wfQ P = true) ∧ ∃ y cc mz, pi_mt[K.1]? = some (y, cc, mz) ∧ ∀ (ρ : Nat → Int) (As : List Value) (w : pi_W), af_Conf Sh w → af_St K.2.2.1.1 ρ K.2.2.1.2.1 As → af_Sl K.2.2.1.1 ρ K.2.2.1.2.2.1 w → af_Kn K.2.2.1.1 ρ Sh K.2.2.1.2.2.2 → ∃ n r w', pi_run n d mz (0, lv_args 0 As, [], w) 0 0 = some (r, w', 0, 0) ∧ af_Conf Sh w' ∧ af_Fr K.2.2.2.1 w w' ∧ ∃ P ∈ K.2.2.2.2, af_End Sh K.2.1 ρ P r.toList w'
theorem af_Holds.mono {Sh : af_H} {d d' : Nat} {K : af_K} (h : af_Holds Sh d K) (hd : d ≤ d') : af_Holds Sh d' K := by
  obtain ⟨h0, y, cc, mz, h1, h2⟩ := h
  refine ⟨h0, y, cc, mz, h1, fun ρ As w a b c e => ?_⟩
  obtain ⟨n, r, w', k, k'⟩ := h2 ρ As w a b c e
  exact ⟨n, r, w', pi_deep k hd, k'⟩
def af_To (d : Nat) (mi : pi_M) (s s' : pi_S) : Prop := ∀ n res, pi_run n d mi s' 0 0 = some res → ∃ n', pi_run n' d mi s 0 0 = some res
theorem af_To.rf (d : Nat) (mi : pi_M) (s : pi_S) : af_To d mi s s := fun n _ h => ⟨n, h⟩
theorem af_To.tr {d : Nat} {mi : pi_M} {s s1 s2 : pi_S} (h1 : af_To d mi s s1) (h2 : af_To d mi s1 s2) : af_To d mi s s2 := fun n res h => by
  obtain ⟨n', h'⟩ := h2 n res h
  exact h1 n' res h'
section AFC
variable {Sh : af_H} {M : af_M} {n : Nat} {ρ ρ' : Nat → Int} {N : af_N} {w w' : pi_W} {g : Nat → Option af_F}
theorem af_peek_in (w : pi_W) : -1 ≤ (af_peek w).toInt ∧ (af_peek w).toInt ≤ 255 := by
  unfold af_peek
  split
  · split
    · split
      · rename_i b _
        have q := af_and_r b 255 (by decide)
        have e : (255 : Int32).toInt = 255 := by decide
        omega
      · decide
    · decide
  · decide
theorem af_bnd_ok {c i : Nat} {lo hi : Int} (hC : af_Conf Sh w) (h : af_bnd Sh c i = some (lo, hi)) : ∃ x : Int32, af_loc w c i = some (.int x) ∧ lo ≤ x.toInt ∧ x.toInt ≤ hi := by
  unfold af_bnd at h
  unfold af_loc
  split at h
  · rename_i hc
    rw [if_pos (by simpa using hc)]
    split at h
    · rename_i hi0
      cases h
      rw [if_pos (by simpa using hi0)]
      exact ⟨_, rfl, af_peek_in w⟩
    · cases h
  · rename_i hc
    rw [if_neg (by simpa using hc)]
    split at h
    · rename_i t m S hSh
      obtain ⟨e, he, hoc⟩ := hC.at hSh
      split at h
      · cases h
      · rename_i ht
        obtain ⟨fn, rfl, hfn⟩ := af_okA.int ht hoc
        split at h
        · rename_i him
          obtain ⟨q, q1, q2, q3⟩ := hfn i him
          rw [h] at q1
          cases q1
          refine ⟨fn i, ?_, q2, q3⟩
          unfold af_wloc
          rw [he]
          simp only [af_cloc, if_pos him]
        · cases h
    · rename_i ci fts hSh
      obtain ⟨e, he, hoc⟩ := hC.at hSh
      obtain ⟨fs, rfl, hln, hfs⟩ := hoc
      split at h
      · rename_i q hft
        cases h
        obtain ⟨v, hv, x, rfl, q1, q2⟩ := hfs i _ hft
        exact ⟨x, by unfold af_wloc; rw [he]; exact hv, q1, q2⟩
      · cases h
    · cases h
theorem af_mat_ok (hC : af_Conf Sh w) : ∀ {P T : af_T} {n n1 : Nat} {N N1 : af_N} {T1 : af_T} {ρ : Nat → Int}, af_Sl n ρ T w → af_Kn n ρ Sh N → af_mat Sh P n T N = some (n1, T1, N1) → n ≤ n1 ∧ ∃ ρ1, af_ag n ρ ρ1 ∧ af_Sl n1 ρ1 T1 w ∧ af_Kn n1 ρ1 Sh N1
  | [], T, n, n1, N, N1, T1, ρ, hT, hK, h => by
    cases h
    exact ⟨Nat.le_refl _, ρ, af_ag.rf _ _, hT, hK⟩
  | ((c, i), p) :: P, T, n, n1, N, N1, T1, ρ, hT, hK, h => by
    unfold af_mat at h
    split at h
    · exact af_mat_ok hC hT hK h
    · split at h
      · cases h
      · rename_i lo hi hb
        obtain ⟨x, hx, x1, x2⟩ := af_bnd_ok hC hb
        have ha := af_upd_ag ρ n x.toInt
        have hT2 : af_Sl (n + 1) (af_upd ρ n x.toInt) (((c, i), (0, [n])) :: T) w := by
          intro e he
          rcases List.mem_cons.mp he with rfl | he
          · exact ⟨af_wf_1 n 0, x, hx, by rw [af_ev_1, af_upd_at]; omega⟩
          · exact hT.ag (Nat.le_succ n) ha e he
        have hK2 := (hK.ag (Nat.le_succ n) ha).bn (Nat.lt_succ_self n) (lo := lo) (hi := hi) (by rw [af_upd_at]; exact x1) (by rw [af_upd_at]; exact x2)
        obtain ⟨k1, ρ1, k2, k3, k4⟩ := af_mat_ok hC hT2 hK2 h
        exact ⟨by omega, ρ1, ha.tr (Nat.le_succ n) k2, k3, k4⟩
theorem af_Fr.cov {K : af_M} (h : af_Fr K w w') (hc : af_covM M K = true) : af_Fr M w w' := by
  intro c i hm
  refine h c i ?_
  cases hk : af_cov K c i i with
  | false => rfl
  | true =>
    obtain ⟨q, hq, h1⟩ := List.any_eq_true.mp hk
    simp only [Bool.and_eq_true, beq_iff_eq, Nat.ble_eq, Nat.blt_eq] at h1
    have h2 := List.all_eq_true.mp hc q hq
    rw [Bool.or_eq_true, Nat.ble_eq] at h2
    rcases h2 with h2 | h2
    · omega
    · rw [h1.1] at h2
      rw [af_cov_in h2 h1.2.1 (by omega)] at hm
      cases hm
theorem af_Sl.keep {K : af_M} {T : af_T} (h : af_Sl n ρ T w) (hF : af_Fr K w w') : af_Sl n ρ (af_keepT K T) w' := by
  intro e he
  obtain ⟨he1, he2⟩ := List.mem_filter.mp he
  obtain ⟨k0, x, k1, k2⟩ := h e he1
  refine ⟨k0, x, ?_, k2⟩
  rw [Bool.and_eq_true, Bool.not_eq_true', Bool.not_eq_true'] at he2
  obtain ⟨p1, p2⟩ := he2
  unfold af_loc at k1 ⊢
  by_cases hv : e.1.1 = af_virt
  · rw [if_pos hv] at k1 ⊢
    have hd : ∀ k ∈ K, k.2.1 < k.2.2 → af_dep k.1 k.2.1 (k.2.2 - 1) = false := by
      rw [Bool.and_eq_false_iff, beq_eq_false_iff_ne] at p2
      rcases p2 with p2 | p2
      · exact absurd hv p2
      · intro k hk hlt
        have q := List.any_eq_false.mp p2 k hk
        cases hdp : af_dep k.1 k.2.1 (k.2.2 - 1) with
        | false => rfl
        | true => exact absurd (by rw [hdp, Nat.blt_eq.mpr hlt]; rfl) q
    have hcv : ∀ c i, (c = 62 ∨ (c = 61 ∧ (i = 3 ∨ i = 4))) → af_cov K c i i = false := by
      intro c i hci
      cases hk : af_cov K c i i with
      | false => rfl
      | true =>
        obtain ⟨q, hq, h1⟩ := List.any_eq_true.mp hk
        simp only [Bool.and_eq_true, beq_iff_eq, Nat.ble_eq, Nat.blt_eq] at h1
        have h2 := hd q hq (by omega)
        unfold af_dep at h2
        rw [Bool.or_eq_false_iff, beq_eq_false_iff_ne] at h2
        rcases hci with hci | ⟨hci, hi⟩
        · exact absurd (h1.1.trans hci) h2.1
        · have h3 : (q.1 == 61) = true := by rw [beq_iff_eq]; exact h1.1.trans hci
          have h4 : Nat.ble q.2.1 4 = true := Nat.ble_eq.mpr (by omega)
          have h5 : Nat.ble 3 (q.2.2 - 1) = true := Nat.ble_eq.mpr (by omega)
          have h6 := h2.2
          rw [h3, h4, h5] at h6
          cases h6
    have hp : af_peek w' = af_peek w := af_peek_eq (fun i hi => hF 61 i (hcv 61 i (Or.inr ⟨rfl, hi⟩))) (fun i => hF 62 i (hcv 62 i (Or.inl rfl)))
    rw [hp]
    exact k1
  · rw [if_neg hv] at k1 ⊢
    rw [hF _ _ p1]
    exact k1
theorem af_pN_ok {E n1 n2 : Nat} {θ : af_X} {ρ2 : Nat → Int} (hg : ∀ v f, v < E → af_thk θ v = some f → af_wf n2 f ∧ af_ev ρ2 f = ρ' v) (hn : ∀ v, ¬ v < E → ρ2 (n1 + (v - E)) = ρ' v) : ∀ {P : List (Nat × Int × Int)} {N : af_N} {r : Option af_N}, (∀ e ∈ P, (¬ e.1 < E → n1 + (e.1 - E) < n2) ∧ e.2.1 ≤ ρ' e.1 ∧ ρ' e.1 ≤ e.2.2) → af_Kn n2 ρ2 Sh N → af_pN E n1 θ N P = some r → ∃ N1, r = some N1 ∧ af_Kn n2 ρ2 Sh N1
  | [], N, r, _, hK, h => by
    cases h
    exact ⟨_, rfl, hK⟩
  | (v, lo, hi) :: P, N, r, hP, hK, h => by
    have hP' := fun e he => hP e (List.mem_cons_of_mem _ he)
    obtain ⟨q0, q1, q2⟩ := hP _ List.mem_cons_self
    dsimp only at q0 q1 q2
    unfold af_pN at h
    split at h
    · rename_i hv
      split at h
      · cases h
      · rename_i f hf
        obtain ⟨g1, g2⟩ := hg v f hv hf
        obtain ⟨N', e1, k1⟩ := af_clip_ok hK g1 (lo := lo) (hi := hi) (by rw [g2]; exact q1) (by rw [g2]; exact q2)
        rw [e1] at h
        exact af_pN_ok hg hn hP' k1 h
    · rename_i hv
      exact af_pN_ok hg hn hP' (hK.bn (q0 hv) (by rw [hn v hv]; exact q1) (by rw [hn v hv]; exact q2)) h
theorem af_addD_ok {u v : Nat} {d : Int} (hK : af_Kn n ρ Sh N) (hu : u < n) (hv : v < n) (hd : d ≤ ρ u - ρ v) : af_Kn n ρ Sh (af_addD u v d N) := by
  refine ⟨hK.1, fun e he => ?_, hK.2.2⟩
  rcases List.mem_cons.mp he with rfl | he
  · exact ⟨hu, hv, hd⟩
  · rcases List.mem_append.mp he with he | he
    · obtain ⟨q, hq, hs⟩ := List.mem_filterMap.mp he
      split at hs
      · rename_i hw
        cases hs
        have hw2 : q.1 = v := by simpa using hw
        obtain ⟨a1, a2, a3⟩ := hK.2.1 q hq
        rw [hw2] at a3
        exact ⟨hu, a2, by dsimp only; omega⟩
      · cases hs
    · exact hK.2.1 e he
theorem af_pD_ok (hg : ∀ v f, g v = some f → ρ' v = af_ev ρ f) : ∀ {P : List (Nat × Nat × Int)} {N : af_N}, (∀ e ∈ P, (∀ f, g e.1 = some f → af_wf n f) ∧ (∀ f, g e.2.1 = some f → af_wf n f) ∧ e.2.2 ≤ ρ' e.1 - ρ' e.2.1) → af_Kn n ρ Sh N → af_Kn n ρ Sh (af_pD g N P)
  | [], N, _, hK => hK
  | (u, v, d) :: P, N, hP, hK => by
    have hP' := fun e he => hP e (List.mem_cons_of_mem _ he)
    obtain ⟨q0, q1, q2⟩ := hP _ List.mem_cons_self
    dsimp only at q0 q1 q2
    unfold af_pD
    split
    · rename_i c1 a c2 b h1 h2
      have e1 := hg u _ h1
      have e2 := hg v _ h2
      rw [af_ev_1] at e1 e2
      exact af_pD_ok hg hP' (af_addD_ok hK (q0 _ h1 a List.mem_cons_self) (q1 _ h2 b List.mem_cons_self) (by omega))
    · exact af_pD_ok hg hP' hK
theorem af_pT_ok {k : Nat} (hg : ∀ v f, g v = some f → ρ' v = af_ev ρ f) : ∀ {P T : af_T}, (∀ e ∈ P, ∀ v ∈ e.2.2, ∀ f, g v = some f → af_wf n f) → af_Sl k ρ' P w → af_pT g P = some T → af_Sl n ρ T w
  | [], T, _, _, h => by
    cases h
    intro e he
    cases he
  | (l, f) :: P, T, hw, hP, h => by
    unfold af_pT at h
    split at h
    · cases h
    · rename_i f' hf
      split at h
      · cases h
      · rename_i T' hT'
        cases h
        have ih := af_pT_ok hg (fun e he => hw e (List.mem_cons_of_mem _ he)) (fun e he => hP e (List.mem_cons_of_mem _ he)) hT'
        intro e he
        rcases List.mem_cons.mp he with rfl | he
        · obtain ⟨_, x, k1, k2⟩ := hP _ List.mem_cons_self
          exact ⟨af_sb_wf (hw _ List.mem_cons_self) hf, x, k1, by rw [← af_sb_ok hg hf]; exact k2⟩
        · exact ih e he
theorem af_pV_ok {k : Nat} (hg : ∀ v f, g v = some f → ρ' v = af_ev ρ f) : ∀ {P vs : List af_V} {vals : List Value}, (∀ a ∈ P, ∀ fm, a = .inl fm → ∀ v ∈ fm.2, ∀ f, g v = some f → af_wf n f) → af_St k ρ' P vals → af_pV g P = some vs → af_St n ρ vs vals
  | [], vs, vals, _, hs, h => by
    cases h
    match vals, hs with
    | [], _ => exact trivial
  | .inl f :: P, vs, vals, hw, hs, h => by
    unfold af_pV at h
    split at h
    · cases h
    · rename_i f' hf
      split at h
      · cases h
      · rename_i vs' hvs
        cases h
        match vals, hs with
        | v :: vals, ⟨⟨_, x, k1, k2⟩, hs2⟩ =>
          exact ⟨⟨af_sb_wf (hw _ List.mem_cons_self f rfl) hf, x, k1, by rw [← af_sb_ok hg hf]; exact k2⟩, af_pV_ok hg (fun a ha => hw a (List.mem_cons_of_mem _ ha)) hs2 hvs⟩
  | .inr a :: P, vs, vals, hw, hs, h => by
    unfold af_pV at h
    split at h
    · cases h
    · rename_i vs' hvs
      cases h
      match vals, hs with
      | v :: vals, ⟨hv, hs2⟩ =>
        refine ⟨?_, af_pV_ok hg (fun a ha => hw a (List.mem_cons_of_mem _ ha)) hs2 hvs⟩
        match a, hv with
        | .inl _, hv => exact hv
        | .inr _, hv => exact hv
theorem af_St.app : ∀ {as bs : List af_V} {us vs : List Value}, af_St n ρ as us → af_St n ρ bs vs → af_St n ρ (as ++ bs) (us ++ vs)
  | [], _, [], _, _, h => h
  | _ :: _, _, _ :: _, _, ⟨h1, h2⟩, h => ⟨h1, h2.app h⟩
theorem af_post_ok {E n1 pc : Nat} {θ : af_X} {K : af_M} {L : af_L} {rest : List af_V} {T : af_T} {P : af_Q} {R : List (Nat × af_S)} {lv : pi_L} {rs vs : List Value} (hL : af_Lo n1 ρ L lv) (hs : af_St n1 ρ rest vs) (hT : af_Sl n1 ρ T w) (hK : af_Kn n1 ρ Sh N) (hC' : af_Conf Sh w') (hF : af_Fr K w w') (hθ : af_Tw n1 0 θ) (hE : ∀ v f, v < E → af_thk θ v = some f → ρ' v = af_ev ρ f) (hP : af_wfQ P = true) (h1 : af_St P.1 ρ' P.2.1 rs) (h2 : af_Sl P.1 ρ' P.2.2.1 w') (h3 : af_Kn P.1 ρ' Sh P.2.2.2) (h : af_post E θ K pc n1 L rest T N P = some R) : ∃ q ∈ R, q.1 = pc ∧ n1 ≤ q.2.1 ∧ ∃ ρ2, af_ag n1 ρ ρ2 ∧ af_Sat Sh ρ2 q.2 (pc, lv, rs ++ vs, w') := by
  unfold af_wfQ at hP
  rw [Bool.and_eq_true, Bool.and_eq_true] at hP
  obtain ⟨p1, p2, p3⟩ := hP
  obtain ⟨b1, b2⟩ := af_wfNb_ok p3
  have hag : af_ag n1 ρ (fun v => if v < n1 then ρ v else ρ' (v - n1 + E)) := fun v hv => if_pos hv
  generalize hρ2 : (fun v => if v < n1 then ρ v else ρ' (v - n1 + E)) = ρ2 at hag
  have hnew : ∀ v, ¬ v < E → ρ2 (n1 + (v - E)) = ρ' v := by
    intro v hv
    rw [← hρ2]
    dsimp only
    rw [if_neg (by omega), show n1 + (v - E) - n1 + E = v by omega]
  have hth : ∀ v, af_th 0 θ v = af_thk θ v := fun v => by
    unfold af_th
    rw [if_neg (Nat.not_lt_zero v)]
  have hg : ∀ v f, af_inst E n1 θ v = some f → ρ' v = af_ev ρ2 f := by
    intro v f hv
    unfold af_inst at hv
    split at hv
    · rename_i hvE
      rw [hE v f hvE hv, af_ev_ag (hθ v f (by rw [hth]; exact hv)) hag]
    · rename_i hvE
      cases hv
      rw [af_ev_1, hnew v hvE]
      omega
  have hn2 : n1 ≤ n1 + (P.1 - E) := Nat.le_add_right _ _
  have hgw : ∀ v, v < P.1 → ∀ f, af_inst E n1 θ v = some f → af_wf (n1 + (P.1 - E)) f := by
    intro v hvP f hv
    unfold af_inst at hv
    split at hv
    · exact (hθ v f (by rw [hth]; exact hv)).mono hn2
    · rename_i hvE
      cases hv
      intro u hu
      rcases List.mem_singleton.mp hu with rfl
      omega
  unfold af_post at h
  split at h
  · cases h
  · rename_i hpn
    obtain ⟨N1, e1, -⟩ := af_pN_ok (Sh := Sh) (ρ' := ρ') (ρ2 := ρ2) (n2 := n1 + (P.1 - E)) (fun v f hvE hv => ⟨(hθ v f (by rw [hth]; exact hv)).mono hn2, by rw [hE v f hvE hv, af_ev_ag (hθ v f (by rw [hth]; exact hv)) hag]⟩) hnew (fun e he => ⟨fun q => by have := b1 e he; omega, (h3.1 e he).2⟩) (hK.ag hn2 hag) hpn
    cases e1
  · rename_i N0 hpn
    obtain ⟨N1, e1, k1⟩ := af_pN_ok (Sh := Sh) (ρ' := ρ') (ρ2 := ρ2) (n2 := n1 + (P.1 - E)) (fun v f hvE hv => ⟨(hθ v f (by rw [hth]; exact hv)).mono hn2, by rw [hE v f hvE hv, af_ev_ag (hθ v f (by rw [hth]; exact hv)) hag]⟩) hnew (fun e he => ⟨fun q => by have := b1 e he; omega, (h3.1 e he).2⟩) (hK.ag hn2 hag) hpn
    cases e1
    split at h
    · cases h
    · rename_i vs1 hpv
      split at h
      · cases h
      · rename_i T1 hpt
        split at h
        · cases h
          refine ⟨_, List.mem_cons_self, rfl, hn2, ρ2, hag, hL.ag hn2 hag, ?_, hC', ?_, ?_⟩
          · refine (af_pV_ok hg ?_ h1 hpv).app (hs.ag hn2 hag)
            intro a ha fm hfm v hv f hf
            have q := af_wfVb_ok (List.all_eq_true.mp p1 a ha)
            subst hfm
            exact hgw v (q v hv) f hf
          · intro e he
            rcases List.mem_append.mp he with he | he
            · exact af_pT_ok hg (fun e he v hv f hf => hgw v (af_wfTb_ok p2 e he v hv) f hf) h2 hpt e he
            · exact (hT.ag hn2 hag).keep hF e he
          · exact af_pD_ok hg (fun e he => ⟨hgw _ (b2 e he).1, hgw _ (b2 e he).2, (h3.2.1 e he).2.2⟩) k1
        · cases h
theorem af_find_ok {z : Nat} {As : List af_V} {T T1 : af_T} {N1 : af_N} {n1 : Nat} {K : af_K} {θ : af_X} : ∀ {CT : List af_K}, af_find Sh z As n T N CT = some (K, θ, n1, T1, N1) → K ∈ CT ∧ K.1 = z ∧ af_mat Sh K.2.2.1.2.2.1 n T N = some (n1, T1, N1) ∧ af_mQ 0 As T1 N1 K.2.2.1 = some θ
  | [], h => by cases h
  | K0 :: CT, h => by
    unfold af_find at h
    split at h
    · rename_i hz
      split at h
      · have q := af_find_ok h
        exact ⟨List.mem_cons_of_mem _ q.1, q.2⟩
      · rename_i a b c hm
        split at h
        · rename_i θ0 hq
          cases h
          exact ⟨List.mem_cons_self, by simpa using hz, hm, hq⟩
        · have q := af_find_ok h
          exact ⟨List.mem_cons_of_mem _ q.1, q.2⟩
    · have q := af_find_ok h
      exact ⟨List.mem_cons_of_mem _ q.1, q.2⟩
theorem af_posts_ok {E pc n1 : Nat} {θ : af_X} {K : af_M} {L : af_L} {st : List af_V} {T : af_T} {P : af_Q} : ∀ {Ps : List af_Q} {R : List (Nat × af_S)}, af_posts E θ K pc n1 L st T N Ps = some R → P ∈ Ps → ∃ R1, af_post E θ K pc n1 L st T N P = some R1 ∧ ∀ q ∈ R1, q ∈ R
  | [], _, _, hP => by cases hP
  | P0 :: Ps, R, h, hP => by
    unfold af_posts at h
    split at h
    · cases h
    · rename_i R0 h0
      split at h
      · cases h
      · rename_i R' h'
        cases h
        rcases List.mem_cons.mp hP with rfl | hP
        · exact ⟨R0, h0, fun q hq => List.mem_append_left _ hq⟩
        · obtain ⟨R1, k1, k2⟩ := af_posts_ok h' hP
          exact ⟨R1, k1, fun q hq => List.mem_append_right _ (k2 q hq)⟩
theorem af_St.len : ∀ {as : List af_V} {vs : List Value}, af_St n ρ as vs → as.length = vs.length
  | [], [], _ => rfl
  | _ :: _, _ :: _, ⟨_, h2⟩ => by rw [List.length_cons, List.length_cons, h2.len]
theorem af_St.take : ∀ {k : Nat} {as : List af_V} {vs : List Value}, af_St n ρ as vs → af_St n ρ (as.take k) (vs.take k)
  | 0, _, _, _ => trivial
  | _ + 1, [], [], _ => trivial
  | _ + 1, _ :: _, _ :: _, ⟨h1, h2⟩ => ⟨h1, h2.take⟩
theorem af_St.drop : ∀ {k : Nat} {as : List af_V} {vs : List Value}, af_St n ρ as vs → af_St n ρ (as.drop k) (vs.drop k)
  | 0, _, _, h => h
  | _ + 1, [], [], _ => trivial
  | _ + 1, _ :: _, _ :: _, ⟨_, h2⟩ => h2.drop
theorem af_St.rev : ∀ {as : List af_V} {vs : List Value}, af_St n ρ as vs → af_St n ρ as.reverse vs.reverse
  | [], [], _ => trivial
  | _ :: _, _ :: _, ⟨h1, h2⟩ => by
    rw [List.reverse_cons, List.reverse_cons]
    exact h2.rev.app ⟨h1, trivial⟩
theorem af_St.cats : ∀ {as : List af_V} {vs : List Value}, af_St n ρ as vs → pi_cats vs = af_vcats as
  | [], [], _ => rfl
  | a :: as, v :: vs, ⟨h1, h2⟩ => by
    have e1 := h2.cats
    have e2 := h1.cat
    unfold pi_cats af_vcats at e1 ⊢
    rw [List.map_cons, List.map_cons, List.sum_cons, List.sum_cons, e1, e2]
theorem af_St.slots : ∀ {as : List af_V} {vs : List Value}, af_St n ρ as vs → (lg_sl vs).length = af_vcats as
  | [], [], _ => rfl
  | a :: as, v :: vs, ⟨h1, h2⟩ => by
    have e1 := h2.slots
    have e2 := h1.cat
    unfold lg_sl af_vcats at e1 ⊢
    rw [List.map_cons, List.sum_cons, List.flatMap_cons, List.length_append, e1]
    split at e2
    · rename_i hl
      rw [if_pos e2, if_pos hl]; rfl
    · rename_i hl
      rw [if_neg (by omega), if_neg hl]; rfl
end AFC
end
section
/-! ===== a call, an end ===== -/
section AFG
variable {Sh : af_H} {M : af_M} {n d : Nat} {ρ ρ' : Nat → Int} {N : af_N} {w w' : pi_W} {mi : pi_M} {L : af_L} {as : List af_V} {T : af_T} {lv : pi_L}
theorem af_cl {x : Int32} (h : 0 ≤ x.toInt) : ¬ x < 0 ∧ (x.toNatClampNeg : Int) = x.toInt := by
  have nx : ¬ x < 0 := by rw [Int32.lt_iff_toInt_lt, Int32.toInt_zero]; omega
  refine ⟨nx, ?_⟩
  obtain ⟨j, hj, rfl⟩ := nI_of nx
  rw [nI_clamp hj, nI_toInt hj]
theorem af_To.spec {s s' : pi_S} {i : Instr} {len cp kind z na : Nat} {kinds : List Nat} {q : Nat} (hf : pi_fetch mi.2.2.2.2 s.1 = some (i, len)) (hE : ¬ pi_isEnd i = true) (hi : pi_inv i = some (cp, kinds)) (hl : pi_look pi_iT mi.1 cp = some (kind, z, na, q)) (hk : ¬ (kinds.contains kind = false ∨ len ≠ 3)) (h3 : 3 < kind) (h6 : ¬ (kind = 6 ∨ kind = 7)) (hsp : pi_spec kind s = some s') : af_To d mi s s' := fun n res h => ⟨n + 1, by
  rw [pi_run, hf]
  dsimp only
  rw [if_neg hE, hi]
  dsimp only
  rw [hl]
  dsimp only
  rw [if_neg hk, if_pos h3, if_neg (fun q => h6 q.2), hsp]
  exact h⟩
theorem af_wrR {a x y : Nat} {c : af_C} {e0 e : pi_E} {pc' : Nat} {vs : List Value} (hL : af_Lo n ρ L lv) (hs : af_St n ρ as vs) (hC : af_Conf Sh w) (hT : af_Sl n ρ T w) (hK : af_Kn n ρ Sh N) (hSh : Sh[a]? = some c) (h0 : w[a]? = some e0) (hok : af_okC c e) (hne : ∀ i, ¬ (x ≤ i ∧ i ≤ y) → af_cloc e i = af_cloc e0 i) (hM : af_cov M a x y = true) : af_Ok Sh M [(pc', n, L, as, af_drop T a x y, N)] n ρ w (pc', lv, vs, w.set a e) := by
  have hw : ∀ c' i', ¬ (c' = a ∧ x ≤ i' ∧ i' ≤ y) → af_wloc (w.set a e) c' i' = af_wloc w c' i' := by
    intro c' i' hn
    rw [af_wloc_set h0]
    by_cases hc : c' = a
    · rw [if_pos hc, hne i' (fun q => hn ⟨hc, q⟩), hc]
      unfold af_wloc
      rw [h0]
    · rw [if_neg hc]
  refine af_Ok.one ?_ rfl (Nat.le_refl _) ⟨ρ, af_ag.rf _ _, hL, hs, hC.set hSh hok, hT.drop hw, hK⟩
  intro c' i' hcv
  refine hw c' i' ?_
  rintro ⟨rfl, h1, h2⟩
  rw [af_cov_in hM h1 h2] at hcv
  cases hcv
theorem af_recv_ok {kind own : Nat} {As : List af_V} {vals : List Value} (hk : kind ≤ 2) (h : kind < 2 ∨ af_rcv Sh own As = true) (hC : af_Conf Sh w) (hs : af_St n ρ As vals) : pi_recv kind own vals w = true := by
  match kind, hk with
  | 0, _ => rfl
  | 1, _ => rfl
  | 2, _ =>
    rcases h with h | h
    · omega
    · unfold af_rcv at h
      split at h
      · rename_i a r
        obtain ⟨vs, rfl, -⟩ := st_r hs
        split at h
        · rename_i c fts hSh
          obtain ⟨e, he, fs, rfl, -⟩ := hC.at hSh
          unfold pi_recv
          dsimp only
          rw [he]
          exact h
        · cases h
      · cases h
set_option maxHeartbeats 2000000 in
theorem af_call_ok {cp len pc : Nat} {kinds : List Nat} {CT : List af_K} {σ : af_S} {R : List (Nat × af_S)} {i : Instr} {st : List Value} (hCT : ∀ K ∈ CT, af_Holds Sh d K) (hf : pi_fetch mi.2.2.2.2 pc = some (i, len)) (hE : ¬ pi_isEnd i = true) (hi : pi_inv i = some (cp, kinds)) (h : af_call mi.1 Sh M CT kinds cp len pc σ = some R) (hS : af_Sat Sh ρ σ (pc, lv, st, w)) : ∃ s', af_To (d + 1) mi (pc, lv, st, w) s' ∧ af_Ok Sh M R σ.1 ρ w s' := by
  obtain ⟨n, L, as, T, N⟩ := σ
  obtain ⟨hL, hs, hC, hT, hK⟩ := hS
  dsimp only at hL hs hC hT hK
  simp only [af_call] at h
  split at h
  · cases h
  · rename_i kind z na q hl
    split at h
    · cases h
    · rename_i hk
      split at h
      · split at h
        · rename_i k dp a1 sp a0 r
          obtain ⟨kv, vs0, rfl, hk0, hkv, hs0⟩ := st_i hs
          obtain ⟨dv, vs1, rfl, hd0, hdv, hs1⟩ := st_i hs0
          obtain ⟨vs2, rfl, hs2⟩ := st_r hs1
          obtain ⟨sv, vs3, rfl, hsp0, hsv, hs3⟩ := st_i hs2
          obtain ⟨vs4, rfl, hs4⟩ := st_r hs3
          split at h
          · rename_i k1 k2 d1 d2 s1 s2 e1 e2 e3
            have b1 := af_iv_ok hK e1
            have b2 := af_iv_ok hK e2
            have b3 := af_iv_ok hK e3
            split at h
            · rename_i t0 m0 S0 t1 m1 S1 hSh0 hSh1
              split at h
              · rename_i hc
                cases h
                obtain ⟨c1, c2, c3, c4, c5, c6, c7, c8, c9, c10⟩ := hc
                subst c6
                obtain ⟨x1, x2⟩ := af_cl (x := kv) (by omega)
                obtain ⟨y1, y2⟩ := af_cl (x := dv) (by omega)
                obtain ⟨z1, z2⟩ := af_cl (x := sv) (by omega)
                have hcat : pi_cats vs4 ≤ 8 := by rw [hs4.cats]; exact c8
                have hb0 : sv.toNatClampNeg + kv.toNatClampNeg ≤ m0 := by omega
                have hb1 : dv.toNatClampNeg + kv.toNatClampNeg ≤ m1 := by omega
                obtain ⟨e, he, hoc⟩ := hC.at hSh0
                obtain ⟨e', he', hoc'⟩ := hC.at hSh1
                rcases c7 with rfl | ⟨rfl, c7⟩
                · obtain ⟨fn, rfl⟩ := af_okA.lng hoc
                  obtain ⟨gn, rfl⟩ := af_okA.lng hoc'
                  refine ⟨(pc + 3, lv, vs4, w.set a1 (.inl (2, m1, .inr (.inl (va_cpy fn gn sv.toNatClampNeg dv.toNatClampNeg kv.toNatClampNeg))))), af_To.spec hf hE hi hl hk (by decide) (by decide) ?_, af_wrR hL hs4 hC hT hK hSh1 he' ?_ ?_ c10⟩
                  · simp only [pi_spec]
                    rw [if_pos ⟨hcat, z1, y1, x1⟩]
                    simp only [he, he']
                    rw [if_pos ⟨hb0, hb1⟩]
                  · show af_okA 2 m1 S1 _
                    unfold af_okA
                    rw [if_pos rfl]
                    exact ⟨_, rfl⟩
                  · intro i' hi'
                    simp only [af_cloc]
                    rw [if_neg (by omega), if_neg (by omega)]
                · obtain ⟨fn, rfl, hfn⟩ := af_okA.int (by decide) hoc
                  obtain ⟨gn, rfl, hgn⟩ := af_okA.int (by decide) hoc'
                  refine ⟨(pc + 3, lv, vs4, w.set a1 (.inl (0, m1, .inl (va_cpy fn gn sv.toNatClampNeg dv.toNatClampNeg kv.toNatClampNeg)))), af_To.spec hf hE hi hl hk (by decide) (by decide) ?_, af_wrR hL hs4 hC hT hK hSh1 he' ?_ ?_ c10⟩
                  · simp only [pi_spec]
                    rw [if_pos ⟨hcat, z1, y1, x1⟩]
                    simp only [he, he']
                    rw [if_pos ⟨hb0, hb1⟩]
                  · show af_okA 0 m1 S1 _
                    unfold af_okA
                    rw [if_neg (by decide)]
                    refine ⟨by decide, _, rfl, fun j hj => ?_⟩
                    obtain ⟨q, q1, q2⟩ := hgn j hj
                    refine ⟨q, q1, ?_⟩
                    unfold va_cpy
                    split
                    · rename_i hjr
                      rcases c7 with c7 | ⟨c7, c11, c12, c13⟩
                      · rw [c7] at q1
                        unfold af_seg at q1
                        rw [if_pos hj] at q1
                        cases q1
                        exact af_i32 _
                      · subst c7
                        have hsd : sv.toNatClampNeg + (j - dv.toNatClampNeg) = j := by omega
                        rw [hsd]
                        obtain ⟨q', q1', q2'⟩ := hfn j (by omega)
                        rw [q1] at q1'
                        cases q1'
                        exact q2'
                    · exact q2
                  · intro i' hi'
                    simp only [af_cloc]
                    rw [if_neg (by omega), if_neg (by omega)]
              · cases h
            · cases h
          · cases h
        · cases h
      · split at h
        · rename_i g f r
          obtain ⟨yv, vs0, rfl, hg0, hyv, hs0⟩ := st_i hs
          obtain ⟨xv, vs1, rfl, hx0, hxv, hs1⟩ := st_i hs0
          split at h
          · rename_i a b c e ea ec
            have b1 := af_iv_ok hK ea
            have b2 := af_iv_ok hK ec
            split at h
            · rename_i hc
              cases h
              have hcat : pi_cats vs1 ≤ 8 := by rw [hs1.cats]; exact hc
              refine ⟨(pc + 3, lv, .int (if yv < xv then yv else xv) :: vs1, w), af_To.spec hf hE hi hl hk (by decide) (by decide) (by simp only [pi_spec]; rw [if_pos hcat]), af_Ok.put hL hs1 hC hT hK ?_⟩
              show _ ≤ _ ∧ _ ≤ _
              by_cases hlt : yv < xv
              · rw [if_pos hlt]
                rw [Int32.lt_iff_toInt_lt] at hlt
                constructor <;> split <;> omega
              · rw [if_neg hlt]
                rw [Int32.lt_iff_toInt_lt] at hlt
                constructor <;> split <;> omega
            · cases h
          · cases h
        · cases h
      · split at h
        · rename_i g f r
          obtain ⟨yv, vs0, rfl, hg0, hyv, hs0⟩ := st_i hs
          obtain ⟨xv, vs1, rfl, hx0, hxv, hs1⟩ := st_i hs0
          split at h
          · rename_i a b c e ea ec
            have b1 := af_iv_ok hK ea
            have b2 := af_iv_ok hK ec
            split at h
            · rename_i hc
              cases h
              have hcat : pi_cats vs1 ≤ 8 := by rw [hs1.cats]; exact hc
              refine ⟨(pc + 3, lv, .int (if xv < yv then yv else xv) :: vs1, w), af_To.spec hf hE hi hl hk (by decide) (by decide) (by simp only [pi_spec]; rw [if_pos hcat]), af_Ok.put hL hs1 hC hT hK ?_⟩
              show _ ≤ _ ∧ _ ≤ _
              by_cases hlt : xv < yv
              · rw [if_pos hlt]
                rw [Int32.lt_iff_toInt_lt] at hlt
                constructor <;> split <;> omega
              · rw [if_neg hlt]
                rw [Int32.lt_iff_toInt_lt] at hlt
                constructor <;> split <;> omega
            · cases h
          · cases h
        · cases h
      · split at h
        · cases h
        · rename_i hk2
          generalize hna : (if kind < 2 then na else na + 1) = na' at h
          split at h
          · rename_i hAs
            split at h
            · cases h
            · rename_i y cc mz hz
              split at h
              · rename_i hrc
                split at h
                · cases h
                · rename_i K θ n1 T1 N1 hfd
                  split at h
                  · rename_i hcv
                    obtain ⟨f1, f2, f3, f4⟩ := af_find_ok hfd
                    obtain ⟨⟨w1, w2⟩, y', cc', mz', hz', hrun⟩ := hCT K f1
                    rw [f2, hz] at hz'
                    cases hz'
                    obtain ⟨g1, ρ1, g2, g3, g4⟩ := af_mat_ok hC hT hK f3
                    have hst1 := hs.ag g1 g2
                    have hAs' := (hst1.take (k := na')).rev
                    have hrs := hst1.drop (k := na')
                    obtain ⟨j1, j2, j3, j4⟩ := af_mQ_ok (Nat.zero_le _) hAs' g3 g4 f4 w1
                    obtain ⟨nr, r, w', r1, r2, r3, P, hP, ρ', r4, r5, r6, r7⟩ := hrun _ _ w hC j2 j3 j4
                    obtain ⟨R1, q1, q2⟩ := af_posts_ok h hP
                    have hE' : ∀ v f, v < K.2.1 → af_thk θ v = some f → ρ' v = af_ev ρ1 f := by
                      intro v f hv hf
                      rw [r4 v hv]
                      refine af_rho_th ρ1 0 θ v f ?_
                      unfold af_th
                      rw [if_neg (Nat.not_lt_zero v)]
                      exact hf
                    obtain ⟨q, hq, z1, z2, ρ2, z3, z4⟩ := af_post_ok (hL.ag g1 g2) hrs g3 g4 r2 r3 j1 hE' (w2 P hP) r5 r6 r7 q1
                    refine ⟨(pc + 3, lv, r.toList ++ st.drop na', w'), ?_, r3.cov hcv, q, q2 q hq, z1, Nat.le_trans g1 z2, ρ2, g2.tr g1 z3, z4⟩
                    intro m res hres
                    refine ⟨(if m ≤ nr then nr else m) + 1, ?_⟩
                    have hargs : pi_args kind na mz (pc, lv, st, w) = some ((st.take na').reverse, st.drop na') := by
                      unfold pi_args
                      dsimp only
                      rw [hna]
                      rw [if_pos ⟨by rw [← hAs'.len]; exact hAs.1, by rw [hrs.cats]; exact hAs.2, af_recv_ok (by omega) hrc.1 hC hAs', by rw [hAs'.slots]; exact hrc.2.1, by rw [hrc.2.2.1]; exact (beq_eq_false_iff_ne.mpr (by omega)).symm, Or.inl (by omega), hrc.2.2.2⟩]
                    have hkeep : pi_keep lv (st.drop na') w w' = true := by
                      unfold pi_keep
                      rw [r2.1, hC.1]
                      simp
                    rw [pi_run, hf]
                    dsimp only
                    rw [if_neg hE, hi]
                    dsimp only
                    rw [hl]
                    dsimp only
                    rw [if_neg hk, if_neg (by omega), hz]
                    dsimp only
                    rw [hargs]
                    dsimp only
                    rw [pi_more r1 (by split <;> omega)]
                    dsimp only
                    rw [if_pos hkeep]
                    exact pi_more hres (by split <;> omega)
                  · cases h
              · cases h
          · cases h
theorem af_any_ok {E : Nat} {Ps : List af_Q} {vs : List af_V} {vals : List Value} (hE : E ≤ n) (hwf : ∀ P ∈ Ps, af_wfQ P = true) (hs : af_St n ρ vs vals) (hT : af_Sl n ρ T w) (hK : af_Kn n ρ Sh N) (h : Ps.any (fun P => (af_mQ E vs T N P).isSome) = true) : ∃ P ∈ Ps, af_End Sh E ρ P vals w := by
  obtain ⟨P, hP, h1⟩ := List.any_eq_true.mp h
  obtain ⟨θ, hθ⟩ := Option.isSome_iff_exists.mp h1
  obtain ⟨j1, j2, j3, j4⟩ := af_mQ_ok hE hs hT hK hθ (hwf P hP)
  exact ⟨P, hP, _, af_rho_ag ρ E θ, j2, j3, j4⟩
theorem af_St.nil {vs : List Value} (h : af_St n ρ [] vs) : vs = [] := by
  match vs, h with
  | [], _ => rfl
theorem af_end_ok {ret : Option FieldType} {E len pc : Nat} {Ps : List af_Q} {i : Instr} {σ : af_S} {st : List Value} (hE : E ≤ σ.1) (hwf : ∀ P ∈ Ps, af_wfQ P = true) (h : af_end ret E Ps i len σ = true) (hS : af_Sat Sh ρ σ (pc, lv, st, w)) : ∃ r, pi_end ret i len (pc, lv, st, w) = some r ∧ ∃ P ∈ Ps, af_End Sh E ρ P r.toList w := by
  obtain ⟨n, L, as, T, N⟩ := σ
  obtain ⟨hL, hs, hC, hT, hK⟩ := hS
  dsimp only at hL hs hC hT hK hE
  unfold af_end at h
  dsimp only at h
  split at h
  · rw [Bool.and_eq_true, decide_eq_true_eq] at h
    obtain ⟨rfl, h⟩ := h
    split at h
    · rename_i f
      obtain ⟨x, vs, rfl, hf, hx, hs1⟩ := st_i hs
      have hv := hs1.nil
      subst hv
      exact ⟨some (.int x), by simp only [pi_end]; rw [if_pos trivial, if_pos (show narrow FieldType.int (Value.int x) = Value.int x from rfl)], af_any_ok hE hwf hs hT hK h⟩
    · rename_i f
      obtain ⟨x, vs, rfl, hf, hx, hs1⟩ := st_i hs
      have hv := hs1.nil
      subst hv
      split at h
      · rename_i a b hab
        have q := af_iv_ok hK hab
        rw [Bool.and_eq_true, Bool.and_eq_true, decide_eq_true_eq, decide_eq_true_eq] at h
        exact ⟨some (.int x), by simp only [pi_end]; rw [if_pos trivial, if_pos (af_nz (by omega) (by omega))], af_any_ok hE hwf hs hT hK h.2.2⟩
      · cases h
    · cases h
  · rw [Bool.and_eq_true, decide_eq_true_eq] at h
    obtain ⟨rfl, h⟩ := h
    split at h
    · rename_i a c
      obtain ⟨vs, rfl, hs1⟩ := st_r hs
      have hv := hs1.nil
      subst hv
      exact ⟨some (.ref a), by simp only [pi_end]; rw [if_pos trivial], af_any_ok hE hwf hs hT hK h⟩
    · cases h
  · rw [Bool.and_eq_true, decide_eq_true_eq] at h
    obtain ⟨rfl, h⟩ := h
    split at h
    · have hv := hs.nil
      subst hv
      exact ⟨none, by simp only [pi_end]; rw [if_pos trivial], af_any_ok hE hwf hs hT hK h⟩
    · cases h
  · cases h
end AFG
end
section
/-! ===== runs, cuts, measures: a method keeps its contract ===== -/
def af_mu (ρ : Nat → Int) (u : Int × Nat × af_F) : Int := if u.2.1 = 0 then u.1 else if u.2.1 = 1 then u.1 - af_ev ρ u.2.2 else u.1 + af_ev ρ u.2.2
def af_ll : List Int → List Int → Prop
  | a :: W, b :: O => a < b ∨ (a ≤ b ∧ af_ll W O)
  | _, _ => False
def af_B : Nat := 1099511627776
def af_enc : Nat → List Int → Nat
  | 0, _ => 0
  | _ + 1, [] => 0
  | m + 1, a :: l => a.toNat * af_B ^ m + af_enc m l
theorem af_enc_lt : ∀ {m : Nat} {l : List Int}, (∀ a ∈ l, 0 ≤ a ∧ a < (af_B : Int)) → af_enc m l < af_B ^ m
  | 0, l, _ => Nat.one_pos
  | m + 1, [], _ => Nat.pow_pos (by decide)
  | m + 1, a :: l, h => by
    have ih := af_enc_lt (m := m) (l := l) (fun b hb => h b (List.mem_cons_of_mem _ hb))
    have ha := h a List.mem_cons_self
    have h1 : a.toNat + 1 ≤ af_B := by omega
    have h2 : (a.toNat + 1) * af_B ^ m ≤ af_B * af_B ^ m := Nat.mul_le_mul_right _ h1
    rw [Nat.add_mul, Nat.one_mul] at h2
    unfold af_enc
    rw [Nat.pow_succ, Nat.mul_comm (af_B ^ m) af_B]
    omega
theorem af_enc_ll : ∀ {m : Nat} {W O : List Int}, W.length ≤ m → (∀ a ∈ W, 0 ≤ a ∧ a < (af_B : Int)) → (∀ a ∈ O, 0 ≤ a ∧ a < (af_B : Int)) → af_ll W O → af_enc m W < af_enc m O
  | 0, a :: W, _, hl, _, _, _ => by
    rw [List.length_cons] at hl
    omega
  | m + 1, a :: W, b :: O, hl, hW, hO, h => by
    have ha := hW a List.mem_cons_self
    have hb := hO b List.mem_cons_self
    have hW' := fun c hc => hW c (List.mem_cons_of_mem _ hc)
    have hO' := fun c hc => hO c (List.mem_cons_of_mem _ hc)
    unfold af_enc
    rcases h with h | ⟨h, h2⟩
    · have e := af_enc_lt (m := m) hW'
      have h1 : a.toNat + 1 ≤ b.toNat := by omega
      have h2 : (a.toNat + 1) * af_B ^ m ≤ b.toNat * af_B ^ m := Nat.mul_le_mul_right _ h1
      rw [Nat.add_mul, Nat.one_mul] at h2
      omega
    · rw [List.length_cons] at hl
      have ih := af_enc_ll (m := m) (by omega) hW' hO' h2
      have h1 : a.toNat ≤ b.toNat := by omega
      have h3 : a.toNat * af_B ^ m ≤ b.toNat * af_B ^ m := Nat.mul_le_mul_right _ h1
      omega
  | _, [], _, _, _, _, h => by cases h
  | _, _ :: _, [], _, _, _, h => by cases h
section AFX
variable {Sh : af_H} {n d : Nat} {ρ : Nat → Int} {N : af_N} {w : pi_W} {mi : pi_M} {lv : pi_L} {st : List Value}
theorem af_lex_ok (hK : af_Kn n ρ Sh N) : ∀ {O W : af_U}, af_lex N O W = true → af_ll (W.map (af_mu ρ)) (O.map (af_mu ρ))
  | [], _, h => by simp [af_lex] at h
  | _ :: _, [], h => by simp [af_lex] at h
  | (k, s, f) :: O, (k', s', f') :: W, h => by
    unfold af_lex at h
    rw [List.map_cons, List.map_cons]
    show af_mu ρ (k', s', f') < af_mu ρ (k, s, f) ∨ (af_mu ρ (k', s', f') ≤ af_mu ρ (k, s, f) ∧ _)
    split at h
    · rename_i hs
      rw [Bool.and_eq_true, beq_iff_eq, beq_iff_eq] at hs
      obtain ⟨rfl, rfl⟩ := hs
      rw [Bool.or_eq_true, Bool.and_eq_true, decide_eq_true_eq, decide_eq_true_eq] at h
      have e1 : af_mu ρ (k, 0, f) = k := rfl
      have e2 : af_mu ρ (k', 0, f') = k' := rfl
      rw [e1, e2]
      rcases h with h | ⟨h, h2⟩
      · exact Or.inl h
      · exact Or.inr ⟨by omega, af_lex_ok hK h2⟩
    · split at h
      · rename_i hs
        rw [Bool.and_eq_true, beq_iff_eq, beq_iff_eq] at hs
        obtain ⟨rfl, rfl⟩ := hs
        have e1 : af_mu ρ (k, 1, f) = k - af_ev ρ f := rfl
        have e2 : af_mu ρ (k', 1, f') = k' - af_ev ρ f' := rfl
        rw [e1, e2]
        split at h
        · cases h
        · rename_i D hD
          have q := af_low_ok hK hD
          rw [Bool.or_eq_true, Bool.and_eq_true, decide_eq_true_eq, decide_eq_true_eq] at h
          rcases h with h | ⟨h, h2⟩
          · exact Or.inl (by omega)
          · exact Or.inr ⟨by omega, af_lex_ok hK h2⟩
      · split at h
        · rename_i hs
          rw [Bool.and_eq_true, beq_iff_eq, beq_iff_eq] at hs
          obtain ⟨rfl, rfl⟩ := hs
          have e1 : af_mu ρ (k, 2, f) = k + af_ev ρ f := rfl
          have e2 : af_mu ρ (k', 2, f') = k' + af_ev ρ f' := rfl
          rw [e1, e2]
          split at h
          · cases h
          · rename_i D hD
            have q := af_low_ok hK hD
            rw [Bool.or_eq_true, Bool.and_eq_true, decide_eq_true_eq, decide_eq_true_eq] at h
            rcases h with h | ⟨h, h2⟩
            · exact Or.inl (by omega)
            · exact Or.inr ⟨by omega, af_lex_ok hK h2⟩
        · cases h
theorem af_pos_ok {U : af_U} (hK : af_Kn n ρ Sh N) (h : af_pos N U = true) : ∀ a ∈ U.map (af_mu ρ), 0 ≤ a ∧ a < (af_B : Int) := by
  intro a ha
  obtain ⟨u, hu, rfl⟩ := List.mem_map.mp ha
  have q := List.all_eq_true.mp h u hu
  have eB : (af_B : Int) = 1099511627776 := rfl
  rw [eB]
  unfold af_mu
  split at q
  · cases q
  · rename_i a b hab
    have r := af_iv_ok hK hab
    split at q
    · rename_i h0
      rw [Bool.and_eq_true, decide_eq_true_eq, decide_eq_true_eq] at q
      rw [if_pos (by simpa using h0)]
      exact q
    · rename_i h0
      rw [if_neg (by simpa using h0)]
      split at q
      · rename_i h1
        rw [Bool.and_eq_true, decide_eq_true_eq, decide_eq_true_eq] at q
        rw [if_pos (by simpa using h1)]
        omega
      · rename_i h1
        rw [Bool.and_eq_true, decide_eq_true_eq, decide_eq_true_eq] at q
        rw [if_neg (by simpa using h1)]
        omega
theorem af_mu_eq {ρ1 ρ2 : Nat → Int} {k : Int} {s : Nat} {f f' : af_F} (h : af_ev ρ1 f = af_ev ρ2 f') : af_mu ρ1 (k, s, f) = af_mu ρ2 (k, s, f') := by
  unfold af_mu
  dsimp only
  rw [h]
theorem af_sU_ok {ρ' : Nat → Int} {g : Nat → Option af_F} (hg : ∀ v f, g v = some f → ρ' v = af_ev ρ f) : ∀ {U U' : af_U}, af_sU g U = some U' → U'.map (af_mu ρ) = U.map (af_mu ρ')
  | [], U', h => by
    cases h
    rfl
  | (k, s, f) :: U, U', h => by
    unfold af_sU at h
    split at h
    · cases h
    · rename_i f' hf
      split at h
      · cases h
      · rename_i U1 hU
        cases h
        rw [List.map_cons, List.map_cons, af_sU_ok hg hU, af_mu_eq (af_sb_ok hg hf).symm]
theorem af_mu_ag {ρ' : Nat → Int} {U : af_U} (hU : ∀ u ∈ U, af_wf n u.2.2) (ha : af_ag n ρ ρ') : U.map (af_mu ρ') = U.map (af_mu ρ) :=
  List.map_congr_left (fun u hu => af_mu_eq (k := u.1) (s := u.2.1) (af_ev_ag (hU u hu) ha))
def af_Fin (Sh : af_H) (d : Nat) (mi : pi_M) (M : af_M) (w0 : pi_W) (E : Nat) (ρ0 : Nat → Int) (Ps : List af_Q) (s : pi_S) : Prop := ∃ n r w', pi_run n d mi s 0 0 = some (r, w', 0, 0) ∧ af_Conf Sh w' ∧ af_Fr M w0 w' ∧ ∃ P ∈ Ps, af_End Sh E ρ0 P r.toList w'
theorem af_To.fin {M : af_M} {w0 : pi_W} {E : Nat} {ρ0 : Nat → Int} {Ps : List af_Q} {s s' : pi_S} (h : af_To d mi s s') (hf : af_Fin Sh d mi M w0 E ρ0 Ps s') : af_Fin Sh d mi M w0 E ρ0 Ps s := by
  obtain ⟨n, r, w', h1, h2⟩ := hf
  obtain ⟨n', h1'⟩ := h n _ h1
  exact ⟨n', r, w', h1', h2⟩
theorem af_notnew {own nL len pc : Nat} {M NT : af_M} {i : Instr} {σ : af_S} {R : List (Nat × af_S)} (h : af_step own nL Sh M NT i len pc σ = some R) : ¬ pi_isNew i = true := by
  intro hn
  obtain ⟨n, L, as, T, N⟩ := σ
  cases i <;> first | (cases hn; done) | (simp [af_step] at h; done)
theorem af_plain_ok {CT : List af_K} {E pc : Nat} {M NT : af_M} {Ps : List af_Q} {CL : List (Nat × af_S × af_U)} {SP : List (Nat × Nat × Nat)} {σ : af_S} {R : List (Nat × af_S)} {ρ0 : Nat → Int} {w0 : pi_W} (hCT : ∀ K ∈ CT, af_Holds Sh d K) (hwf : ∀ P ∈ Ps, af_wfQ P = true) (hE : E ≤ σ.1) (hS : af_Sat Sh ρ σ (pc, lv, st, w)) (h : af_plain ((mi.1, mi.2.1, mi.2.2.1, mi.2.2.2.2), Sh, CT, E, M, Ps, CL, NT, SP) pc σ = some R) (hag : af_ag E ρ0 ρ) (hF : af_Fr M w0 w) : af_Fin Sh (d + 1) mi M w0 E ρ0 Ps (pc, lv, st, w) ∨ ∃ s', af_To (d + 1) mi (pc, lv, st, w) s' ∧ af_Ok Sh M R σ.1 ρ w s' := by
  unfold af_plain at h
  dsimp only at h
  split at h
  · cases h
  · rename_i i len hf
    split at h
    · rename_i hEnd
      split at h
      · rename_i he
        obtain ⟨r, e1, P, hP, ρ', a, b⟩ := af_end_ok hE hwf he hS
        refine Or.inl ⟨1, r, w, ?_, hS.2.2.1, hF, P, hP, ρ', hag.tr (Nat.le_refl _) a, b⟩
        rw [pi_run, hf]
        dsimp only
        rw [if_pos hEnd, e1]
      · cases h
    · rename_i hEnd
      split at h
      · rename_i cp kinds hi
        exact Or.inr (af_call_ok hCT hf hEnd hi h hS)
      · rename_i hi
        obtain ⟨s', e1, e2⟩ := as_step (ini := mi.2.2.2.1) h hS
        refine Or.inr ⟨s', fun n res hr => ⟨n + 1, ?_⟩, e2⟩
        rw [pi_run, hf]
        dsimp only
        rw [if_neg hEnd, hi]
        dsimp only
        rw [if_neg (af_notnew h), e1]
        exact hr
theorem af_spl_ok {pc : Nat} {L : af_L} {as : List af_V} {T : af_T} {f : af_F} (hK : af_Kn n ρ Sh N) (hf : af_wf n f) : ∀ {m : Nat} {k : Int}, k ≤ af_ev ρ f → af_ev ρ f < k + m → ∃ N1, (pc, n, L, as, T, N1) ∈ af_spl pc n L as T N f m k ∧ af_Kn n ρ Sh N1
  | 0, k, h1, h2 => by omega
  | m + 1, k, h1, h2 => by
    unfold af_spl
    by_cases hk : af_ev ρ f = k
    · obtain ⟨N1, e1, k1⟩ := af_clip_ok hK hf (lo := k) (hi := k) (by omega) (by omega)
      rw [e1]
      exact ⟨N1, List.mem_cons_self, k1⟩
    · obtain ⟨N1, hm, k1⟩ := af_spl_ok (m := m) (k := k + 1) hK hf (by omega) (by omega)
      refine ⟨N1, ?_, k1⟩
      split
      · exact hm
      · exact List.mem_cons_of_mem _ hm
theorem af_next_ok {CT : List af_K} {E pc : Nat} {M NT : af_M} {Ps : List af_Q} {CL : List (Nat × af_S × af_U)} {SP : List (Nat × Nat × Nat)} {σ : af_S} {R : List (Nat × af_S)} {ρ0 : Nat → Int} {w0 : pi_W} (hCT : ∀ K ∈ CT, af_Holds Sh d K) (hwf : ∀ P ∈ Ps, af_wfQ P = true) (hE : E ≤ σ.1) (hS : af_Sat Sh ρ σ (pc, lv, st, w)) (h : af_next ((mi.1, mi.2.1, mi.2.2.1, mi.2.2.2.2), Sh, CT, E, M, Ps, CL, NT, SP) pc σ = some R) (hag : af_ag E ρ0 ρ) (hF : af_Fr M w0 w) : af_Fin Sh (d + 1) mi M w0 E ρ0 Ps (pc, lv, st, w) ∨ ∃ s', af_To (d + 1) mi (pc, lv, st, w) s' ∧ af_Ok Sh M R σ.1 ρ w s' := by
  unfold af_next at h
  split at h
  · exact af_plain_ok hCT hwf hE hS h hag hF
  · rename_i x c i hfind
    obtain ⟨n, L, as, T, N⟩ := σ
    dsimp only at h hE
    split at h
    · cases h
    · rename_i n1 T1 N1 hm
      obtain ⟨hL, hs, hC, hT, hK⟩ := hS
      obtain ⟨g1, ρ1, g2, g3, g4⟩ := af_mat_ok hC hT hK hm
      dsimp only at g1 g2
      have hS1 : af_Sat Sh ρ1 (n1, L, as, T1, N1) (pc, lv, st, w) := ⟨hL.ag g1 g2, hs.ag g1 g2, hC, g3, g4⟩
      split at h
      · cases h
      · rename_i f hf
        split at h
        · cases h
        · rename_i a b hab
          split at h
          · rename_i hr
            cases h
            have q := af_iv_ok g4 hab
            have hwff : af_wf n1 f := (g3 _ (af_getT_mem hf)).1
            obtain ⟨N2, hm2, k2⟩ := af_spl_ok (pc := pc) (L := L) (as := as) (T := T1) g4 hwff (m := (b - a + 1).toNat) (k := a) q.1 (by omega)
            exact Or.inr ⟨_, af_To.rf _ _ _, af_Fr.rf _ _, _, hm2, rfl, g1, ρ1, g2, hS1.1, hS1.2.1, hC, g3, k2⟩
          · rcases af_plain_ok (σ := (n1, L, as, T1, N1)) hCT hwf (Nat.le_trans hE g1) hS1 h (hag.tr hE g2) hF with hfin | ⟨s', k1, k2, q, k3, k4, k5, ρ2, k6, k7⟩
            · exact Or.inl hfin
            · exact Or.inr ⟨s', k1, k2, q, k3, k4, Nat.le_trans g1 k5, ρ2, g2.tr g1 k6, k7⟩
theorem af_run_ok {CT : List af_K} {E ns : Nat} {M NT : af_M} {Ps : List af_Q} {CL : List (Nat × af_S × af_U)} {SP : List (Nat × Nat × Nat)} {ρ0 ρs : Nat → Int} {w0 : pi_W} {old : Option af_U} (hCT : ∀ K ∈ CT, af_Holds Sh d K) (hwf : ∀ P ∈ Ps, af_wfQ P = true) (hCL : ∀ q ∈ CL, af_wfS q.2.1 = true) (hU : ∀ U, old = some U → ∀ u ∈ U, af_wf ns u.2.2)
    (hcut : ∀ (s' : pi_S) (q : Nat × af_S × af_U) (ρ' : Nat → Int), q ∈ CL → s'.1 = q.1 → af_Sat Sh ρ' q.2.1 s' → af_ag E ρ0 ρ' → af_Fr M w0 s'.2.2.2 → (∀ U, old = some U → af_ll (q.2.2.map (af_mu ρ')) (U.map (af_mu ρs))) → af_Fin Sh (d + 1) mi M w0 E ρ0 Ps s') : ∀ {fuel pc : Nat} {σ : af_S} {ρ : Nat → Int} {lv : pi_L} {st : List Value} {w : pi_W}, af_run fuel ((mi.1, mi.2.1, mi.2.2.1, mi.2.2.2.2), Sh, CT, E, M, Ps, CL, NT, SP) old (pc, σ) = true → af_Sat Sh ρ σ (pc, lv, st, w) → E ≤ σ.1 → af_ag E ρ0 ρ → af_Fr M w0 w → ns ≤ σ.1 → af_ag ns ρs ρ → af_Fin Sh (d + 1) mi M w0 E ρ0 Ps (pc, lv, st, w)
  | 0, _, _, _, _, _, _, h, _, _, _, _, _, _ => by cases h
  | fuel + 1, pc, σ, ρ, lv, st, w, h, hS, hE, hag, hF, hns, hags => by
    unfold af_run at h
    split at h
    · cases h
    · rename_i R hR
      rcases af_next_ok hCT hwf hE hS hR hag hF with hfin | ⟨⟨pc', lv', st', w'⟩, hto, hF', q, hq, e1, e2, ρ', e3, e4⟩
      · exact hfin
      · refine hto.fin ?_
        dsimp only at e1
        have hq2 := List.all_eq_true.mp h q hq
        have hag' : af_ag E ρ0 ρ' := hag.tr hE e3
        have hags' : af_ag ns ρs ρ' := hags.tr hns e3
        split at hq2
        · obtain ⟨c, hc, h1⟩ := List.any_eq_true.mp hq2
          rw [Bool.and_eq_true, beq_iff_eq] at h1
          obtain ⟨h1, h2⟩ := h1
          split at h2
          · cases h2
          · rename_i θ hθ
            have hm := af_mS_ok (Nat.le_trans hE e2) e4 hθ (hCL c hc)
            refine hcut (pc', lv', st', w') c (af_rho ρ' E θ) hc (e1.symm.trans h1.symm) hm.2 (hag'.tr (Nat.le_refl _) (af_rho_ag ρ' E θ)) (hF.tr hF') ?_
            intro U hold
            subst hold
            dsimp only at h2
            split at h2
            · cases h2
            · rename_i U' hU'
              have hl := af_lex_ok e4.2.2.2.2 h2
              rw [af_sU_ok (af_rho_th ρ' E θ) hU', af_mu_ag (hU U rfl) hags'] at hl
              exact hl
        · obtain ⟨qpc, qσ⟩ := q
          dsimp only at e1 e2 e4
          subst e1
          exact af_run_ok hCT hwf hCL hU hcut hq2 e4 (Nat.le_trans hE e2) hag' (hF.tr hF') (Nat.le_trans hns e2) hags'
theorem af_argsA_le : ∀ {as : List af_V} {i : Nat}, ∀ e ∈ lv_argsA i as, i ≤ e.1
  | [], _, e, he => by cases he
  | a :: as, i, e, he => by
    rcases List.mem_cons.mp he with rfl | he
    · exact Nat.le_refl _
    · have q := af_argsA_le e he
      split at q <;> omega
theorem af_args_ok : ∀ {as : List af_V} {vs : List Value} {i : Nat}, af_St n ρ as vs → af_Lo n ρ (lv_argsA i as) (lv_args i vs)
  | [], [], _, _ => fun e he => by cases he
  | a :: as, v :: vs, i, ⟨h1, h2⟩ => by
    intro e he
    unfold lv_args
    rw [pi_get_cons]
    rcases List.mem_cons.mp he with rfl | he
    · exact ⟨v, if_pos rfl, h1⟩
    · have q := af_argsA_le e he
      rw [if_neg (by split at q <;> omega)]
      have ih := af_args_ok (i := if af_isLong a = true then i + 2 else i + 1) h2 e he
      have hc := h1.cat
      have hi : (if v.category = 2 then i + 2 else i + 1) = (if af_isLong a = true then i + 2 else i + 1) := by
        rw [hc]
        split <;> rfl
      rw [hi]
      exact ih
/-- all that is asked of a contract and its cuts beyond the run -/
def af_wfK (E : Nat) (pre : af_Q) (Ps : List af_Q) (CL : List (Nat × af_S × af_U)) : Bool := Nat.ble E pre.1 && (af_wfQ pre && (Ps.all af_wfQ && CL.all (fun q => af_wfS q.2.1 && (Nat.ble E q.2.1.1 && (Nat.ble q.2.2.length 12 && q.2.2.all (fun u => af_wfb q.2.1.1 u.2.2))))))
theorem af_sound {CT : List af_K} {M NT : af_M} {CL : List (Nat × af_S × af_U)} {SP : List (Nat × Nat × Nat)} {K : af_K} {fuel : Nat} {y : MethodName} {cc : ByteArray} (hz : pi_mt[K.1]? = some (y, cc, mi)) (hk : af_wfK K.2.1 K.2.2.1 K.2.2.2.2 CL = true) (h : af_meth fuel ((mi.1, mi.2.1, mi.2.2.1, mi.2.2.2.2), Sh, CT, K.2.1, K.2.2.2.1, K.2.2.2.2, CL, NT, SP) K.2.2.1 = true) (hCT : ∀ K ∈ CT, af_Holds Sh d K) : af_Holds Sh (d + 1) K := by
  obtain ⟨z, E, pre, M, Ps⟩ := K
  dsimp only at hz hk h
  unfold af_wfK at hk
  rw [Bool.and_eq_true, Bool.and_eq_true, Bool.and_eq_true] at hk
  obtain ⟨hE, hpre, hPs, hCLb⟩ := hk
  rw [Nat.ble_eq] at hE
  have hwf : ∀ P ∈ Ps, af_wfQ P = true := fun P hP => List.all_eq_true.mp hPs P hP
  have hCL : ∀ q ∈ CL, af_wfS q.2.1 = true ∧ E ≤ q.2.1.1 ∧ q.2.2.length ≤ 12 ∧ ∀ u ∈ q.2.2, af_wf q.2.1.1 u.2.2 := by
    intro q hq
    have r := List.all_eq_true.mp hCLb q hq
    rw [Bool.and_eq_true, Bool.and_eq_true, Bool.and_eq_true, Nat.ble_eq, Nat.ble_eq] at r
    exact ⟨r.1, r.2.1, r.2.2.1, fun u hu => af_wfb_ok (List.all_eq_true.mp r.2.2.2 u hu)⟩
  unfold af_meth at h
  rw [Bool.and_eq_true] at h
  obtain ⟨h1, h2⟩ := h
  refine ⟨⟨hpre, hwf⟩, y, cc, mi, hz, fun ρ0 As w0 hC hs hT hK => ?_⟩
  dsimp only at hs hT hK ⊢
  have hloop : ∀ (m : Nat) (q : Nat × af_S × af_U) (s : pi_S) (ρ' : Nat → Int), q ∈ CL → s.1 = q.1 → af_Sat Sh ρ' q.2.1 s → af_ag E ρ0 ρ' → af_Fr M w0 s.2.2.2 → af_enc 12 (q.2.2.map (af_mu ρ')) < m → af_Fin Sh (d + 1) mi M w0 E ρ0 Ps s := by
    intro m
    induction m with
    | zero => intro q s ρ' _ _ _ _ _ hm; omega
    | succ m ih =>
      intro q s ρ' hq hpc hS hag hF hm
      obtain ⟨pc, lv, st, w⟩ := s
      dsimp only at hpc hF
      subst hpc
      have r := List.all_eq_true.mp h2 q hq
      rw [Bool.and_eq_true] at r
      obtain ⟨k1, k2, k3, k4⟩ := hCL q hq
      have p1 := af_pos_ok hS.2.2.2.2 r.1
      refine af_run_ok (ns := q.2.1.1) (ρs := ρ') hCT hwf (fun q hq => (hCL q hq).1) (fun U hU => by cases hU; exact k4) ?_ r.2 hS k2 hag hF (Nat.le_refl _) (af_ag.rf _ _)
      intro s' q' ρ'' hq' hpc' hS' hag' hF' hll
      refine ih q' s' ρ'' hq' hpc' hS' hag' hF' ?_
      have r' := List.all_eq_true.mp h2 q' hq'
      rw [Bool.and_eq_true] at r'
      have p2 := af_pos_ok hS'.2.2.2.2 r'.1
      have hlt := af_enc_ll (m := 12) (by rw [List.length_map]; exact (hCL q' hq').2.2.1) p2 p1 (hll _ rfl)
      omega
  refine af_run_ok (ns := 0) (ρs := ρ0) hCT hwf (fun q hq => (hCL q hq).1) (fun U hU => by cases hU) ?_ h1 (⟨af_args_ok hs, trivial, hC, hT, hK⟩ : af_Sat Sh ρ0 (pre.1, lv_argsA 0 pre.2.1, [], pre.2.2.1, pre.2.2.2) (0, lv_args 0 As, [], w0)) hE (af_ag.rf _ _) (af_Fr.rf _ _) (Nat.zero_le _) (af_ag.rf _ _)
  intro s' q' ρ'' hq' hpc' hS' hag' hF' _
  exact hloop _ q' s' ρ'' hq' hpc' hS' hag' hF' (Nat.lt_succ_self _)
end AFX
theorem af_HN {Sh : af_H} {d : Nat} : ∀ K ∈ ([] : List af_K), af_Holds Sh d K := fun K hK => by cases hK
theorem af_HC {Sh : af_H} {d d' : Nat} {K : af_K} {Ks : List af_K} (h : af_Holds Sh d' K) (hd : d' ≤ d) (hs : ∀ K ∈ Ks, af_Holds Sh d K) : ∀ K' ∈ K :: Ks, af_Holds Sh d K' := fun K' hK => by
  rcases List.mem_cons.mp hK with rfl | hK
  · exact h.mono hd
  · exact hs K' hK
end
section
theorem zz_end : True := trivial
end
