/-! ===== sentences of the model, by hand ===== -/
theorem hk_1 : pi_look pi_fT 11 1 = some (11, 0, 1247) := rfl
theorem hk_7 : pi_look pi_fT 11 7 = some (11, 2, 1249) := rfl
theorem hk_14 : pi_look pi_fT 11 14 = some (11, 1, 1248) := rfl
theorem hk_18 : pi_look pi_fT 11 18 = some (11, 3, 1250) := rfl
theorem hk_21 : pi_look pi_fT 11 21 = some (11, 4, 1251) := rfl
theorem hk_24 : pi_look pi_fT 11 24 = some (11, 5, 1252) := rfl
theorem hk_33 : pi_look pi_fT 11 33 = some (11, 6, 1253) := rfl
theorem hk_37 : pi_look pi_fT 11 37 = some (11, 7, 1254) := rfl
theorem hk_40 : pi_look pi_fT 11 40 = some (11, 8, 1255) := rfl
theorem hk_43 : pi_look pi_fT 11 43 = some (11, 9, 1256) := rfl
theorem hk_47 : pi_look pi_fT 11 47 = some (11, 10, 1257) := rfl
theorem hk_50 : pi_look pi_fT 11 50 = some (11, 20, 1267) := rfl
theorem hk_53 : pi_look pi_fT 11 53 = some (11, 21, 1268) := rfl
theorem hk_56 : pi_look pi_fT 11 56 = some (11, 23, 1270) := rfl
theorem hk_59 : pi_look pi_fT 11 59 = some (11, 24, 1271) := rfl
theorem hk_62 : pi_look pi_fT 11 62 = some (11, 25, 1272) := rfl
theorem hk_65 : pi_look pi_fT 11 65 = some (11, 33, 1280) := rfl
theorem hk_68 : pi_look pi_fT 11 68 = some (11, 35, 1282) := rfl
theorem hk_71 : pi_look pi_fT 11 71 = some (11, 41, 1288) := rfl
theorem hk_75 : pi_look pi_fT 11 75 = some (11, 42, 1289) := rfl
theorem hk_78 : pi_look pi_fT 11 78 = some (11, 43, 1290) := rfl
theorem hk_81 : pi_look pi_fT 11 81 = some (11, 44, 1291) := rfl
theorem hk_146 : pi_look pi_fT 11 146 = some (11, 12, 1259) := rfl
theorem hk_149 : pi_look pi_fT 11 149 = some (11, 13, 1260) := rfl
theorem hk_152 : pi_look pi_fT 11 152 = some (11, 11, 1258) := rfl
theorem hk_162 : pi_look pi_fT 11 162 = some (11, 14, 1261) := rfl
theorem hk_165 : pi_look pi_fT 11 165 = some (11, 17, 1264) := rfl
theorem hk_169 : pi_look pi_fT 11 169 = some (11, 15, 1262) := rfl
theorem hk_172 : pi_look pi_fT 11 172 = some (11, 16, 1263) := rfl
theorem hk_188 : pi_look pi_fT 11 188 = some (11, 18, 1265) := rfl
theorem hk_235 : pi_look pi_fT 11 235 = some (11, 19, 1266) := rfl
theorem hk_247 : pi_look pi_fT 11 247 = some (11, 22, 1269) := rfl
theorem hk_368 : pi_look pi_fT 11 368 = some (11, 26, 1273) := rfl
theorem hk_383 : pi_look pi_fT 11 383 = some (11, 28, 1275) := rfl
theorem hk_387 : pi_look pi_fT 11 387 = some (11, 27, 1274) := rfl
theorem hk_390 : pi_look pi_fT 11 390 = some (11, 30, 1277) := rfl
theorem hk_393 : pi_look pi_fT 11 393 = some (11, 29, 1276) := rfl
theorem hk_396 : pi_look pi_fT 11 396 = some (11, 31, 1278) := rfl
theorem hk_406 : pi_look pi_fT 11 406 = some (11, 32, 1279) := rfl
theorem hk_421 : pi_look pi_fT 11 421 = some (11, 34, 1281) := rfl
theorem hk_424 : pi_look pi_fT 11 424 = some (11, 36, 1283) := rfl
theorem hk_427 : pi_look pi_fT 11 427 = some (11, 38, 1285) := rfl
theorem hk_433 : pi_look pi_fT 11 433 = some (11, 39, 1286) := rfl
theorem hk_439 : pi_look pi_fT 11 439 = some (11, 37, 1284) := rfl
theorem hk_442 : pi_look pi_fT 11 442 = some (11, 40, 1287) := rfl
theorem hi_181 : pi_look pi_iT 11 181 = some (2, 176, 0, 1392) := rfl
theorem hi_430 : pi_look pi_iT 11 430 = some (2, 272, 3, 1809) := rfl
theorem hi_445 : pi_look pi_iT 11 445 = some (2, 274, 0, 1805) := rfl
theorem hi_448 : pi_look pi_iT 11 448 = some (2, 273, 1, 1813) := rfl
theorem hi_451 : pi_look pi_iT 11 451 = some (2, 277, 0, 1817) := rfl
theorem hi_454 : pi_look pi_iT 11 454 = some (2, 276, 0, 1821) := rfl
theorem hi_232 : pi_look pi_iT 11 232 = some (2, 166, 1, 1388) := rfl
theorem hf272_0 : pi_fetch mc_272 0 = some (.aload_n 0, 1) := rfl
theorem hf272_1 : pi_fetch mc_272 1 = some (.getfield 40, 3) := rfl
theorem hf272_4 : pi_fetch mc_272 4 = some (.iconst 3, 1) := rfl
theorem hf272_5 : pi_fetch mc_272 5 = some (.aload_n 0, 1) := rfl
theorem hf272_6 : pi_fetch mc_272 6 = some (.getfield 424, 3) := rfl
theorem hf272_9 : pi_fetch mc_272 9 = some (.imul, 1) := rfl
theorem hf272_10 : pi_fetch mc_272 10 = some (.iload_n 1, 1) := rfl
theorem hf272_11 : pi_fetch mc_272 11 = some (.iastore, 1) := rfl
theorem hf272_12 : pi_fetch mc_272 12 = some (.aload_n 0, 1) := rfl
theorem hf272_13 : pi_fetch mc_272 13 = some (.getfield 40, 3) := rfl
theorem hf272_16 : pi_fetch mc_272 16 = some (.iconst 3, 1) := rfl
theorem hf272_17 : pi_fetch mc_272 17 = some (.aload_n 0, 1) := rfl
theorem hf272_18 : pi_fetch mc_272 18 = some (.getfield 424, 3) := rfl
theorem hf272_21 : pi_fetch mc_272 21 = some (.imul, 1) := rfl
theorem hf272_22 : pi_fetch mc_272 22 = some (.iconst 1, 1) := rfl
theorem hf272_23 : pi_fetch mc_272 23 = some (.iadd, 1) := rfl
theorem hf272_24 : pi_fetch mc_272 24 = some (.iload_n 2, 1) := rfl
theorem hf272_25 : pi_fetch mc_272 25 = some (.iastore, 1) := rfl
theorem hf272_26 : pi_fetch mc_272 26 = some (.aload_n 0, 1) := rfl
theorem hf272_27 : pi_fetch mc_272 27 = some (.getfield 40, 3) := rfl
theorem hf272_30 : pi_fetch mc_272 30 = some (.iconst 3, 1) := rfl
theorem hf272_31 : pi_fetch mc_272 31 = some (.aload_n 0, 1) := rfl
theorem hf272_32 : pi_fetch mc_272 32 = some (.getfield 424, 3) := rfl
theorem hf272_35 : pi_fetch mc_272 35 = some (.imul, 1) := rfl
theorem hf272_36 : pi_fetch mc_272 36 = some (.iconst 2, 1) := rfl
theorem hf272_37 : pi_fetch mc_272 37 = some (.iadd, 1) := rfl
theorem hf272_38 : pi_fetch mc_272 38 = some (.iload_n 3, 1) := rfl
theorem hf272_39 : pi_fetch mc_272 39 = some (.iastore, 1) := rfl
theorem hf272_40 : pi_fetch mc_272 40 = some (.aload_n 0, 1) := rfl
theorem hf272_41 : pi_fetch mc_272 41 = some (.dup, 1) := rfl
theorem hf272_42 : pi_fetch mc_272 42 = some (.getfield 424, 3) := rfl
theorem hf272_45 : pi_fetch mc_272 45 = some (.iconst 1, 1) := rfl
theorem hf272_46 : pi_fetch mc_272 46 = some (.iadd, 1) := rfl
theorem hf272_47 : pi_fetch mc_272 47 = some (.putfield 424, 3) := rfl
theorem hf272_50 : pi_fetch mc_272 50 = some (.return_, 1) := rfl
def hm272 : pi_M := (11, 4, none, false, mc_272)
set_option maxRecDepth 100000 in
theorem pz_272 : pi_mt[272]? = some (mn_272, prog_13_method_112_code, (11, 4, none, false, mc_272)) := rfl
theorem hf273_0 : pi_fetch mc_273 0 = some (.aload_n 0, 1) := rfl
theorem hf273_1 : pi_fetch mc_273 1 = some (.getfield 427, 3) := rfl
theorem hf273_4 : pi_fetch mc_273 4 = some (.ifCond .le 69, 3) := rfl
theorem hf273_7 : pi_fetch mc_273 7 = some (.aload_n 0, 1) := rfl
theorem hf273_8 : pi_fetch mc_273 8 = some (.getfield 68, 3) := rfl
theorem hf273_11 : pi_fetch mc_273 11 = some (.aload_n 0, 1) := rfl
theorem hf273_12 : pi_fetch mc_273 12 = some (.getfield 427, 3) := rfl
theorem hf273_15 : pi_fetch mc_273 15 = some (.iconst 1, 1) := rfl
theorem hf273_16 : pi_fetch mc_273 16 = some (.isub, 1) := rfl
theorem hf273_17 : pi_fetch mc_273 17 = some (.iaload, 1) := rfl
theorem hf273_18 : pi_fetch mc_273 18 = some (.bipush 21, 2) := rfl
theorem hf273_20 : pi_fetch mc_273 20 = some (.if_icmp .eq 25, 3) := rfl
theorem hf273_23 : pi_fetch mc_273 23 = some (.aload_n 0, 1) := rfl
theorem hf273_24 : pi_fetch mc_273 24 = some (.getfield 68, 3) := rfl
theorem hf273_27 : pi_fetch mc_273 27 = some (.aload_n 0, 1) := rfl
theorem hf273_28 : pi_fetch mc_273 28 = some (.getfield 427, 3) := rfl
theorem hf273_31 : pi_fetch mc_273 31 = some (.iconst 1, 1) := rfl
theorem hf273_32 : pi_fetch mc_273 32 = some (.isub, 1) := rfl
theorem hf273_33 : pi_fetch mc_273 33 = some (.iaload, 1) := rfl
theorem hf273_34 : pi_fetch mc_273 34 = some (.bipush 22, 2) := rfl
theorem hf273_36 : pi_fetch mc_273 36 = some (.if_icmp .ne 37, 3) := rfl
theorem hf273_39 : pi_fetch mc_273 39 = some (.iload_n 1, 1) := rfl
theorem hf273_40 : pi_fetch mc_273 40 = some (.bipush 22, 2) := rfl
theorem hf273_42 : pi_fetch mc_273 42 = some (.if_icmp .ne 31, 3) := rfl
theorem hf273_45 : pi_fetch mc_273 45 = some (.aload_n 0, 1) := rfl
theorem hf273_46 : pi_fetch mc_273 46 = some (.dup, 1) := rfl
theorem hf273_47 : pi_fetch mc_273 47 = some (.getfield 427, 3) := rfl
theorem hf273_50 : pi_fetch mc_273 50 = some (.iconst 1, 1) := rfl
theorem hf273_51 : pi_fetch mc_273 51 = some (.isub, 1) := rfl
theorem hf273_52 : pi_fetch mc_273 52 = some (.putfield 427, 3) := rfl
theorem hf273_55 : pi_fetch mc_273 55 = some (.aload_n 0, 1) := rfl
theorem hf273_56 : pi_fetch mc_273 56 = some (.aload_n 0, 1) := rfl
theorem hf273_57 : pi_fetch mc_273 57 = some (.getfield 68, 3) := rfl
theorem hf273_60 : pi_fetch mc_273 60 = some (.aload_n 0, 1) := rfl
theorem hf273_61 : pi_fetch mc_273 61 = some (.getfield 427, 3) := rfl
theorem hf273_64 : pi_fetch mc_273 64 = some (.iaload, 1) := rfl
theorem hf273_65 : pi_fetch mc_273 65 = some (.iconst 0, 1) := rfl
theorem hf273_66 : pi_fetch mc_273 66 = some (.iconst 0, 1) := rfl
theorem hf273_67 : pi_fetch mc_273 67 = some (.invokevirtual 430, 3) := rfl
theorem hf273_70 : pi_fetch mc_273 70 = some (.goto (-70), 3) := rfl
theorem hf273_73 : pi_fetch mc_273 73 = some (.return_, 1) := rfl
def hm273 : pi_M := (11, 2, none, false, mc_273)
set_option maxRecDepth 100000 in
theorem pz_273 : pi_mt[273]? = some (mn_273, prog_13_method_113_code, (11, 2, none, false, mc_273)) := rfl
theorem hf274_0 : pi_fetch mc_274 0 = some (.aload_n 0, 1) := rfl
theorem hf274_1 : pi_fetch mc_274 1 = some (.getfield 427, 3) := rfl
theorem hf274_4 : pi_fetch mc_274 4 = some (.ifCond .le 50, 3) := rfl
theorem hf274_7 : pi_fetch mc_274 7 = some (.aload_n 0, 1) := rfl
theorem hf274_8 : pi_fetch mc_274 8 = some (.getfield 68, 3) := rfl
theorem hf274_11 : pi_fetch mc_274 11 = some (.aload_n 0, 1) := rfl
theorem hf274_12 : pi_fetch mc_274 12 = some (.getfield 427, 3) := rfl
theorem hf274_15 : pi_fetch mc_274 15 = some (.iconst 1, 1) := rfl
theorem hf274_16 : pi_fetch mc_274 16 = some (.isub, 1) := rfl
theorem hf274_17 : pi_fetch mc_274 17 = some (.iaload, 1) := rfl
theorem hf274_18 : pi_fetch mc_274 18 = some (.bipush 20, 2) := rfl
theorem hf274_20 : pi_fetch mc_274 20 = some (.if_icmp .ne 34, 3) := rfl
theorem hf274_23 : pi_fetch mc_274 23 = some (.aload_n 0, 1) := rfl
theorem hf274_24 : pi_fetch mc_274 24 = some (.dup, 1) := rfl
theorem hf274_25 : pi_fetch mc_274 25 = some (.getfield 427, 3) := rfl
theorem hf274_28 : pi_fetch mc_274 28 = some (.iconst 1, 1) := rfl
theorem hf274_29 : pi_fetch mc_274 29 = some (.isub, 1) := rfl
theorem hf274_30 : pi_fetch mc_274 30 = some (.putfield 427, 3) := rfl
theorem hf274_33 : pi_fetch mc_274 33 = some (.aload_n 0, 1) := rfl
theorem hf274_34 : pi_fetch mc_274 34 = some (.dup, 1) := rfl
theorem hf274_35 : pi_fetch mc_274 35 = some (.getfield 433, 3) := rfl
theorem hf274_38 : pi_fetch mc_274 38 = some (.iconst 1, 1) := rfl
theorem hf274_39 : pi_fetch mc_274 39 = some (.isub, 1) := rfl
theorem hf274_40 : pi_fetch mc_274 40 = some (.putfield 433, 3) := rfl
theorem hf274_43 : pi_fetch mc_274 43 = some (.aload_n 0, 1) := rfl
theorem hf274_44 : pi_fetch mc_274 44 = some (.bipush 20, 2) := rfl
theorem hf274_46 : pi_fetch mc_274 46 = some (.iconst 0, 1) := rfl
theorem hf274_47 : pi_fetch mc_274 47 = some (.iconst 0, 1) := rfl
theorem hf274_48 : pi_fetch mc_274 48 = some (.invokevirtual 430, 3) := rfl
theorem hf274_51 : pi_fetch mc_274 51 = some (.goto (-51), 3) := rfl
theorem hf274_54 : pi_fetch mc_274 54 = some (.return_, 1) := rfl
def hm274 : pi_M := (11, 1, none, false, mc_274)
set_option maxRecDepth 100000 in
theorem pz_274 : pi_mt[274]? = some (mn_274, prog_13_method_114_code, (11, 1, none, false, mc_274)) := rfl
theorem hf276_0 : pi_fetch mc_276 0 = some (.aload_n 0, 1) := rfl
theorem hf276_1 : pi_fetch mc_276 1 = some (.ldc2_w 122, 3) := rfl
theorem hf276_4 : pi_fetch mc_276 4 = some (.invokevirtual 206, 3) := rfl
theorem hf276_7 : pi_fetch mc_276 7 = some (.istore_n 1, 1) := rfl
theorem hf276_8 : pi_fetch mc_276 8 = some (.aload_n 0, 1) := rfl
theorem hf276_9 : pi_fetch mc_276 9 = some (.bipush 40, 2) := rfl
theorem hf276_11 : pi_fetch mc_276 11 = some (.invokevirtual 175, 3) := rfl
theorem hf276_14 : pi_fetch mc_276 14 = some (.istore_n 2, 1) := rfl
theorem hf276_15 : pi_fetch mc_276 15 = some (.aload_n 0, 1) := rfl
theorem hf276_16 : pi_fetch mc_276 16 = some (.invokevirtual 436, 3) := rfl
theorem hf276_19 : pi_fetch mc_276 19 = some (.istore_n 3, 1) := rfl
theorem hf276_20 : pi_fetch mc_276 20 = some (.iload_n 1, 1) := rfl
theorem hf276_21 : pi_fetch mc_276 21 = some (.ifCond .ne 17, 3) := rfl
theorem hf276_24 : pi_fetch mc_276 24 = some (.iload_n 2, 1) := rfl
theorem hf276_25 : pi_fetch mc_276 25 = some (.ifCond .ne 13, 3) := rfl
theorem hf276_28 : pi_fetch mc_276 28 = some (.iload_n 3, 1) := rfl
theorem hf276_29 : pi_fetch mc_276 29 = some (.ifCond .ge 9, 3) := rfl
theorem hf276_32 : pi_fetch mc_276 32 = some (.aload_n 0, 1) := rfl
theorem hf276_33 : pi_fetch mc_276 33 = some (.iconst 1, 1) := rfl
theorem hf276_34 : pi_fetch mc_276 34 = some (.invokevirtual 178, 3) := rfl
theorem hf276_37 : pi_fetch mc_276 37 = some (.ireturn, 1) := rfl
theorem hf276_38 : pi_fetch mc_276 38 = some (.aload_n 0, 1) := rfl
theorem hf276_39 : pi_fetch mc_276 39 = some (.getfield 439, 3) := rfl
theorem hf276_42 : pi_fetch mc_276 42 = some (.bipush 20, 2) := rfl
theorem hf276_44 : pi_fetch mc_276 44 = some (.if_icmp .eq 12, 3) := rfl
theorem hf276_47 : pi_fetch mc_276 47 = some (.aload_n 0, 1) := rfl
theorem hf276_48 : pi_fetch mc_276 48 = some (.getfield 433, 3) := rfl
theorem hf276_51 : pi_fetch mc_276 51 = some (.bipush 8, 2) := rfl
theorem hf276_53 : pi_fetch mc_276 53 = some (.if_icmp .le 9, 3) := rfl
theorem hf276_56 : pi_fetch mc_276 56 = some (.aload_n 0, 1) := rfl
theorem hf276_57 : pi_fetch mc_276 57 = some (.iconst 4, 1) := rfl
theorem hf276_58 : pi_fetch mc_276 58 = some (.invokevirtual 178, 3) := rfl
theorem hf276_61 : pi_fetch mc_276 61 = some (.ireturn, 1) := rfl
theorem hf276_62 : pi_fetch mc_276 62 = some (.aload_n 0, 1) := rfl
theorem hf276_63 : pi_fetch mc_276 63 = some (.dup, 1) := rfl
theorem hf276_64 : pi_fetch mc_276 64 = some (.getfield 439, 3) := rfl
theorem hf276_67 : pi_fetch mc_276 67 = some (.iconst 1, 1) := rfl
theorem hf276_68 : pi_fetch mc_276 68 = some (.iadd, 1) := rfl
theorem hf276_69 : pi_fetch mc_276 69 = some (.putfield 439, 3) := rfl
theorem hf276_72 : pi_fetch mc_276 72 = some (.aload_n 0, 1) := rfl
theorem hf276_73 : pi_fetch mc_276 73 = some (.invokevirtual 181, 3) := rfl
theorem hf276_76 : pi_fetch mc_276 76 = some (.iload_n 1, 1) := rfl
theorem hf276_77 : pi_fetch mc_276 77 = some (.ifCond .ne 7, 3) := rfl
theorem hf276_80 : pi_fetch mc_276 80 = some (.iload_n 2, 1) := rfl
theorem hf276_81 : pi_fetch mc_276 81 = some (.ifCond .eq 45, 3) := rfl
theorem hf276_84 : pi_fetch mc_276 84 = some (.aload_n 0, 1) := rfl
theorem hf276_85 : pi_fetch mc_276 85 = some (.getfield 68, 3) := rfl
theorem hf276_88 : pi_fetch mc_276 88 = some (.aload_n 0, 1) := rfl
theorem hf276_89 : pi_fetch mc_276 89 = some (.getfield 427, 3) := rfl
theorem hf276_92 : pi_fetch mc_276 92 = some (.iload_n 1, 1) := rfl
theorem hf276_93 : pi_fetch mc_276 93 = some (.ifCond .eq 8, 3) := rfl
theorem hf276_96 : pi_fetch mc_276 96 = some (.bipush 20, 2) := rfl
theorem hf276_98 : pi_fetch mc_276 98 = some (.goto 5, 3) := rfl
theorem hf276_101 : pi_fetch mc_276 101 = some (.bipush 23, 2) := rfl
theorem hf276_103 : pi_fetch mc_276 103 = some (.iastore, 1) := rfl
theorem hf276_104 : pi_fetch mc_276 104 = some (.aload_n 0, 1) := rfl
theorem hf276_105 : pi_fetch mc_276 105 = some (.dup, 1) := rfl
theorem hf276_106 : pi_fetch mc_276 106 = some (.getfield 427, 3) := rfl
theorem hf276_109 : pi_fetch mc_276 109 = some (.iconst 1, 1) := rfl
theorem hf276_110 : pi_fetch mc_276 110 = some (.iadd, 1) := rfl
theorem hf276_111 : pi_fetch mc_276 111 = some (.putfield 427, 3) := rfl
theorem hf276_114 : pi_fetch mc_276 114 = some (.aload_n 0, 1) := rfl
theorem hf276_115 : pi_fetch mc_276 115 = some (.dup, 1) := rfl
theorem hf276_116 : pi_fetch mc_276 116 = some (.getfield 433, 3) := rfl
theorem hf276_119 : pi_fetch mc_276 119 = some (.iconst 1, 1) := rfl
theorem hf276_120 : pi_fetch mc_276 120 = some (.iadd, 1) := rfl
theorem hf276_121 : pi_fetch mc_276 121 = some (.putfield 433, 3) := rfl
theorem hf276_124 : pi_fetch mc_276 124 = some (.iconst 1, 1) := rfl
theorem hf276_125 : pi_fetch mc_276 125 = some (.ireturn, 1) := rfl
theorem hf276_126 : pi_fetch mc_276 126 = some (.aload_n 0, 1) := rfl
theorem hf276_127 : pi_fetch mc_276 127 = some (.iconst 1, 1) := rfl
theorem hf276_128 : pi_fetch mc_276 128 = some (.putfield 442, 3) := rfl
theorem hf276_131 : pi_fetch mc_276 131 = some (.iload_n 3, 1) := rfl
theorem hf276_132 : pi_fetch mc_276 132 = some (.iconst 2, 1) := rfl
theorem hf276_133 : pi_fetch mc_276 133 = some (.if_icmp .ge 12, 3) := rfl
theorem hf276_136 : pi_fetch mc_276 136 = some (.aload_n 0, 1) := rfl
theorem hf276_137 : pi_fetch mc_276 137 = some (.iload_n 3, 1) := rfl
theorem hf276_138 : pi_fetch mc_276 138 = some (.iconst 0, 1) := rfl
theorem hf276_139 : pi_fetch mc_276 139 = some (.iconst 0, 1) := rfl
theorem hf276_140 : pi_fetch mc_276 140 = some (.invokevirtual 430, 3) := rfl
theorem hf276_143 : pi_fetch mc_276 143 = some (.iconst 1, 1) := rfl
theorem hf276_144 : pi_fetch mc_276 144 = some (.ireturn, 1) := rfl
theorem hf276_145 : pi_fetch mc_276 145 = some (.iload_n 3, 1) := rfl
theorem hf276_146 : pi_fetch mc_276 146 = some (.iconst 5, 1) := rfl
theorem hf276_147 : pi_fetch mc_276 147 = some (.if_icmp .ge 94, 3) := rfl
theorem hf276_150 : pi_fetch mc_276 150 = some (.aload_n 0, 1) := rfl
theorem hf276_151 : pi_fetch mc_276 151 = some (.invokevirtual 195, 3) := rfl
theorem hf276_154 : pi_fetch mc_276 154 = some (.ifCond .ne 9, 3) := rfl
theorem hf276_157 : pi_fetch mc_276 157 = some (.aload_n 0, 1) := rfl
theorem hf276_158 : pi_fetch mc_276 158 = some (.iconst 1, 1) := rfl
theorem hf276_159 : pi_fetch mc_276 159 = some (.invokevirtual 178, 3) := rfl
theorem hf276_162 : pi_fetch mc_276 162 = some (.ireturn, 1) := rfl
theorem hf276_163 : pi_fetch mc_276 163 = some (.iload_n 3, 1) := rfl
theorem hf276_164 : pi_fetch mc_276 164 = some (.iconst 2, 1) := rfl
theorem hf276_165 : pi_fetch mc_276 165 = some (.if_icmp .ne 18, 3) := rfl
theorem hf276_168 : pi_fetch mc_276 168 = some (.aload_n 0, 1) := rfl
theorem hf276_169 : pi_fetch mc_276 169 = some (.bipush 15, 2) := rfl
theorem hf276_171 : pi_fetch mc_276 171 = some (.aload_n 0, 1) := rfl
theorem hf276_172 : pi_fetch mc_276 172 = some (.getfield 33, 3) := rfl
theorem hf276_175 : pi_fetch mc_276 175 = some (.iconst 3, 1) := rfl
theorem hf276_176 : pi_fetch mc_276 176 = some (.iaload, 1) := rfl
theorem hf276_177 : pi_fetch mc_276 177 = some (.invokevirtual 199, 3) := rfl
theorem hf276_180 : pi_fetch mc_276 180 = some (.goto 34, 3) := rfl
theorem hf276_183 : pi_fetch mc_276 183 = some (.iload_n 3, 1) := rfl
theorem hf276_184 : pi_fetch mc_276 184 = some (.iconst 3, 1) := rfl
theorem hf276_185 : pi_fetch mc_276 185 = some (.if_icmp .ne 18, 3) := rfl
theorem hf276_188 : pi_fetch mc_276 188 = some (.aload_n 0, 1) := rfl
theorem hf276_189 : pi_fetch mc_276 189 = some (.bipush 10, 2) := rfl
theorem hf276_191 : pi_fetch mc_276 191 = some (.aload_n 0, 1) := rfl
theorem hf276_192 : pi_fetch mc_276 192 = some (.getfield 33, 3) := rfl
theorem hf276_195 : pi_fetch mc_276 195 = some (.iconst 2, 1) := rfl
theorem hf276_196 : pi_fetch mc_276 196 = some (.iaload, 1) := rfl
theorem hf276_197 : pi_fetch mc_276 197 = some (.invokevirtual 199, 3) := rfl
theorem hf276_200 : pi_fetch mc_276 200 = some (.goto 14, 3) := rfl
theorem hf276_203 : pi_fetch mc_276 203 = some (.aload_n 0, 1) := rfl
theorem hf276_204 : pi_fetch mc_276 204 = some (.iconst 0, 1) := rfl
theorem hf276_205 : pi_fetch mc_276 205 = some (.aload_n 0, 1) := rfl
theorem hf276_206 : pi_fetch mc_276 206 = some (.getfield 33, 3) := rfl
theorem hf276_209 : pi_fetch mc_276 209 = some (.iconst 0, 1) := rfl
theorem hf276_210 : pi_fetch mc_276 210 = some (.iaload, 1) := rfl
theorem hf276_211 : pi_fetch mc_276 211 = some (.invokevirtual 199, 3) := rfl
theorem hf276_214 : pi_fetch mc_276 214 = some (.istore 4, 2) := rfl
theorem hf276_216 : pi_fetch mc_276 216 = some (.iload 4, 2) := rfl
theorem hf276_218 : pi_fetch mc_276 218 = some (.ifCond .ge 9, 3) := rfl
theorem hf276_221 : pi_fetch mc_276 221 = some (.aload_n 0, 1) := rfl
theorem hf276_222 : pi_fetch mc_276 222 = some (.iconst 3, 1) := rfl
theorem hf276_223 : pi_fetch mc_276 223 = some (.invokevirtual 178, 3) := rfl
theorem hf276_226 : pi_fetch mc_276 226 = some (.ireturn, 1) := rfl
theorem hf276_227 : pi_fetch mc_276 227 = some (.aload_n 0, 1) := rfl
theorem hf276_228 : pi_fetch mc_276 228 = some (.iload_n 3, 1) := rfl
theorem hf276_229 : pi_fetch mc_276 229 = some (.iconst 0, 1) := rfl
theorem hf276_230 : pi_fetch mc_276 230 = some (.iload 4, 2) := rfl
theorem hf276_232 : pi_fetch mc_276 232 = some (.invokevirtual 430, 3) := rfl
theorem hf276_235 : pi_fetch mc_276 235 = some (.aload_n 0, 1) := rfl
theorem hf276_236 : pi_fetch mc_276 236 = some (.invokevirtual 181, 3) := rfl
theorem hf276_239 : pi_fetch mc_276 239 = some (.iconst 1, 1) := rfl
theorem hf276_240 : pi_fetch mc_276 240 = some (.ireturn, 1) := rfl
theorem hf276_241 : pi_fetch mc_276 241 = some (.aload_n 0, 1) := rfl
theorem hf276_242 : pi_fetch mc_276 242 = some (.getfield 152, 3) := rfl
theorem hf276_245 : pi_fetch mc_276 245 = some (.iconst 3, 1) := rfl
theorem hf276_246 : pi_fetch mc_276 246 = some (.if_icmp .ne 21, 3) := rfl
theorem hf276_249 : pi_fetch mc_276 249 = some (.aload_n 0, 1) := rfl
theorem hf276_250 : pi_fetch mc_276 250 = some (.getfield 162, 3) := rfl
theorem hf276_253 : pi_fetch mc_276 253 = some (.bipush 60, 2) := rfl
theorem hf276_255 : pi_fetch mc_276 255 = some (.if_icmp .lt 12, 3) := rfl
theorem hf276_258 : pi_fetch mc_276 258 = some (.aload_n 0, 1) := rfl
theorem hf276_259 : pi_fetch mc_276 259 = some (.getfield 162, 3) := rfl
theorem hf276_262 : pi_fetch mc_276 262 = some (.bipush 62, 2) := rfl
theorem hf276_264 : pi_fetch mc_276 264 = some (.if_icmp .le 9, 3) := rfl
theorem hf276_267 : pi_fetch mc_276 267 = some (.aload_n 0, 1) := rfl
theorem hf276_268 : pi_fetch mc_276 268 = some (.iconst 1, 1) := rfl
theorem hf276_269 : pi_fetch mc_276 269 = some (.invokevirtual 178, 3) := rfl
theorem hf276_272 : pi_fetch mc_276 272 = some (.ireturn, 1) := rfl
theorem hf276_273 : pi_fetch mc_276 273 = some (.aload_n 0, 1) := rfl
theorem hf276_274 : pi_fetch mc_276 274 = some (.getfield 162, 3) := rfl
theorem hf276_277 : pi_fetch mc_276 277 = some (.istore 4, 2) := rfl
theorem hf276_279 : pi_fetch mc_276 279 = some (.aload_n 0, 1) := rfl
theorem hf276_280 : pi_fetch mc_276 280 = some (.invokevirtual 181, 3) := rfl
theorem hf276_283 : pi_fetch mc_276 283 = some (.aload_n 0, 1) := rfl
theorem hf276_284 : pi_fetch mc_276 284 = some (.getfield 152, 3) := rfl
theorem hf276_287 : pi_fetch mc_276 287 = some (.iconst 2, 1) := rfl
theorem hf276_288 : pi_fetch mc_276 288 = some (.if_icmp .eq 9, 3) := rfl
theorem hf276_291 : pi_fetch mc_276 291 = some (.aload_n 0, 1) := rfl
theorem hf276_292 : pi_fetch mc_276 292 = some (.iconst 1, 1) := rfl
theorem hf276_293 : pi_fetch mc_276 293 = some (.invokevirtual 178, 3) := rfl
theorem hf276_296 : pi_fetch mc_276 296 = some (.ireturn, 1) := rfl
theorem hf276_297 : pi_fetch mc_276 297 = some (.aload_n 0, 1) := rfl
theorem hf276_298 : pi_fetch mc_276 298 = some (.iload_n 3, 1) := rfl
theorem hf276_299 : pi_fetch mc_276 299 = some (.iload 4, 2) := rfl
theorem hf276_301 : pi_fetch mc_276 301 = some (.aload_n 0, 1) := rfl
theorem hf276_302 : pi_fetch mc_276 302 = some (.getfield 162, 3) := rfl
theorem hf276_305 : pi_fetch mc_276 305 = some (.invokevirtual 430, 3) := rfl
theorem hf276_308 : pi_fetch mc_276 308 = some (.aload_n 0, 1) := rfl
theorem hf276_309 : pi_fetch mc_276 309 = some (.invokevirtual 181, 3) := rfl
theorem hf276_312 : pi_fetch mc_276 312 = some (.iconst 1, 1) := rfl
theorem hf276_313 : pi_fetch mc_276 313 = some (.ireturn, 1) := rfl
def hm276 : pi_M := (11, 5, (some .boolean), false, mc_276)
set_option maxRecDepth 100000 in
theorem pz_276 : pi_mt[276]? = some (mn_276, prog_13_method_116_code, (11, 5, (some .boolean), false, mc_276)) := rfl
theorem hf277_0 : pi_fetch mc_277 0 = some (.aload_n 0, 1) := rfl
theorem hf277_1 : pi_fetch mc_277 1 = some (.invokevirtual 445, 3) := rfl
theorem hf277_4 : pi_fetch mc_277 4 = some (.aload_n 0, 1) := rfl
theorem hf277_5 : pi_fetch mc_277 5 = some (.ldc2_w 120, 3) := rfl
theorem hf277_8 : pi_fetch mc_277 8 = some (.invokevirtual 206, 3) := rfl
theorem hf277_11 : pi_fetch mc_277 11 = some (.ifCond .ne 13, 3) := rfl
theorem hf277_14 : pi_fetch mc_277 14 = some (.aload_n 0, 1) := rfl
theorem hf277_15 : pi_fetch mc_277 15 = some (.ldc2_w 118, 3) := rfl
theorem hf277_18 : pi_fetch mc_277 18 = some (.invokevirtual 206, 3) := rfl
theorem hf277_21 : pi_fetch mc_277 21 = some (.ifCond .eq 71, 3) := rfl
theorem hf277_24 : pi_fetch mc_277 24 = some (.aload_n 0, 1) := rfl
theorem hf277_25 : pi_fetch mc_277 25 = some (.aload_n 0, 1) := rfl
theorem hf277_26 : pi_fetch mc_277 26 = some (.ldc2_w 120, 3) := rfl
theorem hf277_29 : pi_fetch mc_277 29 = some (.invokevirtual 206, 3) := rfl
theorem hf277_32 : pi_fetch mc_277 32 = some (.ifCond .eq 8, 3) := rfl
theorem hf277_35 : pi_fetch mc_277 35 = some (.bipush 21, 2) := rfl
theorem hf277_37 : pi_fetch mc_277 37 = some (.goto 5, 3) := rfl
theorem hf277_40 : pi_fetch mc_277 40 = some (.bipush 22, 2) := rfl
theorem hf277_42 : pi_fetch mc_277 42 = some (.invokevirtual 448, 3) := rfl
theorem hf277_45 : pi_fetch mc_277 45 = some (.aload_n 0, 1) := rfl
theorem hf277_46 : pi_fetch mc_277 46 = some (.getfield 68, 3) := rfl
theorem hf277_49 : pi_fetch mc_277 49 = some (.aload_n 0, 1) := rfl
theorem hf277_50 : pi_fetch mc_277 50 = some (.getfield 427, 3) := rfl
theorem hf277_53 : pi_fetch mc_277 53 = some (.aload_n 0, 1) := rfl
theorem hf277_54 : pi_fetch mc_277 54 = some (.ldc2_w 120, 3) := rfl
theorem hf277_57 : pi_fetch mc_277 57 = some (.invokevirtual 206, 3) := rfl
theorem hf277_60 : pi_fetch mc_277 60 = some (.ifCond .eq 8, 3) := rfl
theorem hf277_63 : pi_fetch mc_277 63 = some (.bipush 21, 2) := rfl
theorem hf277_65 : pi_fetch mc_277 65 = some (.goto 5, 3) := rfl
theorem hf277_68 : pi_fetch mc_277 68 = some (.bipush 22, 2) := rfl
theorem hf277_70 : pi_fetch mc_277 70 = some (.iastore, 1) := rfl
theorem hf277_71 : pi_fetch mc_277 71 = some (.aload_n 0, 1) := rfl
theorem hf277_72 : pi_fetch mc_277 72 = some (.dup, 1) := rfl
theorem hf277_73 : pi_fetch mc_277 73 = some (.getfield 427, 3) := rfl
theorem hf277_76 : pi_fetch mc_277 76 = some (.iconst 1, 1) := rfl
theorem hf277_77 : pi_fetch mc_277 77 = some (.iadd, 1) := rfl
theorem hf277_78 : pi_fetch mc_277 78 = some (.putfield 427, 3) := rfl
theorem hf277_81 : pi_fetch mc_277 81 = some (.aload_n 0, 1) := rfl
theorem hf277_82 : pi_fetch mc_277 82 = some (.iconst 0, 1) := rfl
theorem hf277_83 : pi_fetch mc_277 83 = some (.putfield 442, 3) := rfl
theorem hf277_86 : pi_fetch mc_277 86 = some (.aload_n 0, 1) := rfl
theorem hf277_87 : pi_fetch mc_277 87 = some (.invokevirtual 181, 3) := rfl
theorem hf277_90 : pi_fetch mc_277 90 = some (.iconst 1, 1) := rfl
theorem hf277_91 : pi_fetch mc_277 91 = some (.ireturn, 1) := rfl
theorem hf277_92 : pi_fetch mc_277 92 = some (.aload_n 0, 1) := rfl
theorem hf277_93 : pi_fetch mc_277 93 = some (.bipush 22, 2) := rfl
theorem hf277_95 : pi_fetch mc_277 95 = some (.invokevirtual 448, 3) := rfl
theorem hf277_98 : pi_fetch mc_277 98 = some (.aload_n 0, 1) := rfl
theorem hf277_99 : pi_fetch mc_277 99 = some (.bipush 41, 2) := rfl
theorem hf277_101 : pi_fetch mc_277 101 = some (.invokevirtual 175, 3) := rfl
theorem hf277_104 : pi_fetch mc_277 104 = some (.ifCond .eq 10, 3) := rfl
theorem hf277_107 : pi_fetch mc_277 107 = some (.aload_n 0, 1) := rfl
theorem hf277_108 : pi_fetch mc_277 108 = some (.getfield 427, 3) := rfl
theorem hf277_111 : pi_fetch mc_277 111 = some (.ifCond .ne 9, 3) := rfl
theorem hf277_114 : pi_fetch mc_277 114 = some (.aload_n 0, 1) := rfl
theorem hf277_115 : pi_fetch mc_277 115 = some (.iconst 1, 1) := rfl
theorem hf277_116 : pi_fetch mc_277 116 = some (.invokevirtual 178, 3) := rfl
theorem hf277_119 : pi_fetch mc_277 119 = some (.ireturn, 1) := rfl
theorem hf277_120 : pi_fetch mc_277 120 = some (.aload_n 0, 1) := rfl
theorem hf277_121 : pi_fetch mc_277 121 = some (.dup, 1) := rfl
theorem hf277_122 : pi_fetch mc_277 122 = some (.getfield 427, 3) := rfl
theorem hf277_125 : pi_fetch mc_277 125 = some (.iconst 1, 1) := rfl
theorem hf277_126 : pi_fetch mc_277 126 = some (.isub, 1) := rfl
theorem hf277_127 : pi_fetch mc_277 127 = some (.putfield 427, 3) := rfl
theorem hf277_130 : pi_fetch mc_277 130 = some (.aload_n 0, 1) := rfl
theorem hf277_131 : pi_fetch mc_277 131 = some (.dup, 1) := rfl
theorem hf277_132 : pi_fetch mc_277 132 = some (.getfield 433, 3) := rfl
theorem hf277_135 : pi_fetch mc_277 135 = some (.iconst 1, 1) := rfl
theorem hf277_136 : pi_fetch mc_277 136 = some (.isub, 1) := rfl
theorem hf277_137 : pi_fetch mc_277 137 = some (.putfield 433, 3) := rfl
theorem hf277_140 : pi_fetch mc_277 140 = some (.aload_n 0, 1) := rfl
theorem hf277_141 : pi_fetch mc_277 141 = some (.invokevirtual 181, 3) := rfl
theorem hf277_144 : pi_fetch mc_277 144 = some (.iconst 1, 1) := rfl
theorem hf277_145 : pi_fetch mc_277 145 = some (.ireturn, 1) := rfl
def hm277 : pi_M := (11, 1, (some .boolean), false, mc_277)
set_option maxRecDepth 100000 in
theorem pz_277 : pi_mt[277]? = some (mn_277, prog_13_method_117_code, (11, 1, (some .boolean), false, mc_277)) := rfl
theorem hf278_0 : pi_fetch mc_278 0 = some (.aload_n 0, 1) := rfl
theorem hf278_1 : pi_fetch mc_278 1 = some (.iconst 0, 1) := rfl
theorem hf278_2 : pi_fetch mc_278 2 = some (.putfield 1, 3) := rfl
theorem hf278_5 : pi_fetch mc_278 5 = some (.aload_n 0, 1) := rfl
theorem hf278_6 : pi_fetch mc_278 6 = some (.sipush 200, 3) := rfl
theorem hf278_9 : pi_fetch mc_278 9 = some (.invokevirtual 232, 3) := rfl
theorem hf278_12 : pi_fetch mc_278 12 = some (.aload_n 0, 1) := rfl
theorem hf278_13 : pi_fetch mc_278 13 = some (.iconst 0, 1) := rfl
theorem hf278_14 : pi_fetch mc_278 14 = some (.putfield 169, 3) := rfl
theorem hf278_17 : pi_fetch mc_278 17 = some (.aload_n 0, 1) := rfl
theorem hf278_18 : pi_fetch mc_278 18 = some (.iconst 0, 1) := rfl
theorem hf278_19 : pi_fetch mc_278 19 = some (.putfield 424, 3) := rfl
theorem hf278_22 : pi_fetch mc_278 22 = some (.aload_n 0, 1) := rfl
theorem hf278_23 : pi_fetch mc_278 23 = some (.iconst 0, 1) := rfl
theorem hf278_24 : pi_fetch mc_278 24 = some (.putfield 439, 3) := rfl
theorem hf278_27 : pi_fetch mc_278 27 = some (.aload_n 0, 1) := rfl
theorem hf278_28 : pi_fetch mc_278 28 = some (.iconst 0, 1) := rfl
theorem hf278_29 : pi_fetch mc_278 29 = some (.putfield 427, 3) := rfl
theorem hf278_32 : pi_fetch mc_278 32 = some (.aload_n 0, 1) := rfl
theorem hf278_33 : pi_fetch mc_278 33 = some (.iconst 1, 1) := rfl
theorem hf278_34 : pi_fetch mc_278 34 = some (.putfield 433, 3) := rfl
theorem hf278_37 : pi_fetch mc_278 37 = some (.aload_n 0, 1) := rfl
theorem hf278_38 : pi_fetch mc_278 38 = some (.iconst 0, 1) := rfl
theorem hf278_39 : pi_fetch mc_278 39 = some (.putfield 442, 3) := rfl
theorem hf278_42 : pi_fetch mc_278 42 = some (.aload_n 0, 1) := rfl
theorem hf278_43 : pi_fetch mc_278 43 = some (.invokevirtual 181, 3) := rfl
theorem hf278_46 : pi_fetch mc_278 46 = some (.iconst 1, 1) := rfl
theorem hf278_47 : pi_fetch mc_278 47 = some (.istore_n 1, 1) := rfl
theorem hf278_48 : pi_fetch mc_278 48 = some (.iload_n 1, 1) := rfl
theorem hf278_49 : pi_fetch mc_278 49 = some (.ifCond .eq 83, 3) := rfl
theorem hf278_52 : pi_fetch mc_278 52 = some (.aload_n 0, 1) := rfl
theorem hf278_53 : pi_fetch mc_278 53 = some (.getfield 442, 3) := rfl
theorem hf278_56 : pi_fetch mc_278 56 = some (.ifCond .eq 45, 3) := rfl
theorem hf278_59 : pi_fetch mc_278 59 = some (.aload_n 0, 1) := rfl
theorem hf278_60 : pi_fetch mc_278 60 = some (.getfield 152, 3) := rfl
theorem hf278_63 : pi_fetch mc_278 63 = some (.ifCond .ne 38, 3) := rfl
theorem hf278_66 : pi_fetch mc_278 66 = some (.aload_n 0, 1) := rfl
theorem hf278_67 : pi_fetch mc_278 67 = some (.invokevirtual 445, 3) := rfl
theorem hf278_70 : pi_fetch mc_278 70 = some (.aload_n 0, 1) := rfl
theorem hf278_71 : pi_fetch mc_278 71 = some (.bipush 22, 2) := rfl
theorem hf278_73 : pi_fetch mc_278 73 = some (.invokevirtual 448, 3) := rfl
theorem hf278_76 : pi_fetch mc_278 76 = some (.aload_n 0, 1) := rfl
theorem hf278_77 : pi_fetch mc_278 77 = some (.getfield 427, 3) := rfl
theorem hf278_80 : pi_fetch mc_278 80 = some (.ifCond .le 16, 3) := rfl
theorem hf278_83 : pi_fetch mc_278 83 = some (.aload_n 0, 1) := rfl
theorem hf278_84 : pi_fetch mc_278 84 = some (.iconst 1, 1) := rfl
theorem hf278_85 : pi_fetch mc_278 85 = some (.invokevirtual 178, 3) := rfl
theorem hf278_88 : pi_fetch mc_278 88 = some (.pop, 1) := rfl
theorem hf278_89 : pi_fetch mc_278 89 = some (.iconst (-1), 1) := rfl
theorem hf278_90 : pi_fetch mc_278 90 = some (.aload_n 0, 1) := rfl
theorem hf278_91 : pi_fetch mc_278 91 = some (.getfield 172, 3) := rfl
theorem hf278_94 : pi_fetch mc_278 94 = some (.isub, 1) := rfl
theorem hf278_95 : pi_fetch mc_278 95 = some (.ireturn, 1) := rfl
theorem hf278_96 : pi_fetch mc_278 96 = some (.iconst 0, 1) := rfl
theorem hf278_97 : pi_fetch mc_278 97 = some (.istore_n 1, 1) := rfl
theorem hf278_98 : pi_fetch mc_278 98 = some (.goto (-50), 3) := rfl
theorem hf278_101 : pi_fetch mc_278 101 = some (.aload_n 0, 1) := rfl
theorem hf278_102 : pi_fetch mc_278 102 = some (.getfield 442, 3) := rfl
theorem hf278_105 : pi_fetch mc_278 105 = some (.ifCond .eq 13, 3) := rfl
theorem hf278_108 : pi_fetch mc_278 108 = some (.aload_n 0, 1) := rfl
theorem hf278_109 : pi_fetch mc_278 109 = some (.invokevirtual 451, 3) := rfl
theorem hf278_112 : pi_fetch mc_278 112 = some (.ifCond .ne (-64), 3) := rfl
theorem hf278_115 : pi_fetch mc_278 115 = some (.goto 10, 3) := rfl
theorem hf278_118 : pi_fetch mc_278 118 = some (.aload_n 0, 1) := rfl
theorem hf278_119 : pi_fetch mc_278 119 = some (.invokevirtual 454, 3) := rfl
theorem hf278_122 : pi_fetch mc_278 122 = some (.ifCond .ne (-74), 3) := rfl
theorem hf278_125 : pi_fetch mc_278 125 = some (.iconst (-1), 1) := rfl
theorem hf278_126 : pi_fetch mc_278 126 = some (.aload_n 0, 1) := rfl
theorem hf278_127 : pi_fetch mc_278 127 = some (.getfield 172, 3) := rfl
theorem hf278_130 : pi_fetch mc_278 130 = some (.isub, 1) := rfl
theorem hf278_131 : pi_fetch mc_278 131 = some (.ireturn, 1) := rfl
theorem hf278_132 : pi_fetch mc_278 132 = some (.aload_n 0, 1) := rfl
theorem hf278_133 : pi_fetch mc_278 133 = some (.getfield 33, 3) := rfl
theorem hf278_136 : pi_fetch mc_278 136 = some (.sipush 230, 3) := rfl
theorem hf278_139 : pi_fetch mc_278 139 = some (.aload_n 0, 1) := rfl
theorem hf278_140 : pi_fetch mc_278 140 = some (.getfield 424, 3) := rfl
theorem hf278_143 : pi_fetch mc_278 143 = some (.iastore, 1) := rfl
theorem hf278_144 : pi_fetch mc_278 144 = some (.iconst 0, 1) := rfl
theorem hf278_145 : pi_fetch mc_278 145 = some (.istore_n 2, 1) := rfl
theorem hf278_146 : pi_fetch mc_278 146 = some (.iload_n 2, 1) := rfl
theorem hf278_147 : pi_fetch mc_278 147 = some (.iconst 3, 1) := rfl
theorem hf278_148 : pi_fetch mc_278 148 = some (.aload_n 0, 1) := rfl
theorem hf278_149 : pi_fetch mc_278 149 = some (.getfield 424, 3) := rfl
theorem hf278_152 : pi_fetch mc_278 152 = some (.imul, 1) := rfl
theorem hf278_153 : pi_fetch mc_278 153 = some (.if_icmp .ge 25, 3) := rfl
theorem hf278_156 : pi_fetch mc_278 156 = some (.aload_n 0, 1) := rfl
theorem hf278_157 : pi_fetch mc_278 157 = some (.getfield 33, 3) := rfl
theorem hf278_160 : pi_fetch mc_278 160 = some (.sipush 231, 3) := rfl
theorem hf278_163 : pi_fetch mc_278 163 = some (.iload_n 2, 1) := rfl
theorem hf278_164 : pi_fetch mc_278 164 = some (.iadd, 1) := rfl
theorem hf278_165 : pi_fetch mc_278 165 = some (.aload_n 0, 1) := rfl
theorem hf278_166 : pi_fetch mc_278 166 = some (.getfield 40, 3) := rfl
theorem hf278_169 : pi_fetch mc_278 169 = some (.iload_n 2, 1) := rfl
theorem hf278_170 : pi_fetch mc_278 170 = some (.iaload, 1) := rfl
theorem hf278_171 : pi_fetch mc_278 171 = some (.iastore, 1) := rfl
theorem hf278_172 : pi_fetch mc_278 172 = some (.iinc 2 1, 3) := rfl
theorem hf278_175 : pi_fetch mc_278 175 = some (.goto (-29), 3) := rfl
theorem hf278_178 : pi_fetch mc_278 178 = some (.aload_n 0, 1) := rfl
theorem hf278_179 : pi_fetch mc_278 179 = some (.getfield 439, 3) := rfl
theorem hf278_182 : pi_fetch mc_278 182 = some (.ireturn, 1) := rfl
def hm278 : pi_M := (11, 3, (some .int), false, mc_278)
set_option maxRecDepth 100000 in
theorem pz_278 : pi_mt[278]? = some (mn_278, prog_13_method_118_code, (11, 3, (some .int), false, mc_278)) := rfl
def so_G : af_G := ((11, 5, (some .boolean), mc_276), aw_Sh, [ak_490, ak_493, ak_491, ak_510, ak_492, ak_589, ak_577, ak_581, ak_560], 1, [(61, 4, 5), (61, 11, 18), (61, 37, 38), (61, 40, 41)], [(3, [.inl (0, [])], [((61, 15), (0, [1])), ((61, 16), (0, [2]))], ([(1, 1, 4), (2, 0, 940)], [], []))], [(84, (4, [(0, .inr (.inl 61)), (1, .inl (0, [1])), (2, .inl (0, [2])), (3, .inl (0, [3]))], [], [((61, 37), (1, [0])), ((61, 40), (0, []))], ([(1, 0, 1), (2, 0, 1), (3, (-1), 8), (0, 0, 19)], [], [])), [(0, 0, (0, []))]),
  (136, (2, [(0, .inr (.inl 61)), (1, .inl (0, [])), (2, .inl (0, [])), (3, .inl (0, [1]))], [], [((61, 37), (1, [0])), ((61, 40), (1, []))], ([(1, 0, 1), (0, 0, 19)], [], [])), [(0, 0, (0, []))]),
  (227, (3, [(0, .inr (.inl 61)), (1, .inl (0, [])), (2, .inl (0, [])), (3, .inl (0, [1])), (4, .inl (0, [2]))], [], [((61, 37), (1, [0])), ((61, 40), (1, []))], ([(1, 2, 2), (2, 0, 5), (0, 0, 19)], [], [])), [(0, 0, (0, []))]),
  (227, (3, [(0, .inr (.inl 61)), (1, .inl (0, [])), (2, .inl (0, [])), (3, .inl (0, [1])), (4, .inl (0, [2]))], [], [((61, 37), (1, [0])), ((61, 40), (1, []))], ([(1, 3, 4), (2, 0, 9), (0, 0, 19)], [], [])), [(0, 0, (0, []))]),
  (297, (3, [(0, .inr (.inl 61)), (1, .inl (0, [])), (2, .inl (0, [])), (3, .inl (0, [1])), (4, .inl (0, [2]))], [], [((61, 37), (1, [0])), ((61, 40), (1, []))], ([(1, 5, 8), (2, 60, 62), (0, 0, 19)], [], [])), [(0, 0, (0, []))])], [], [])
def so_s : af_S := (1, [(0, .inr (.inl 61))], [], [((61, 37), (0, [0])), ((61, 40), (0, []))], ([(0, 0, 20)], [], []))
set_option maxRecDepth 1000000 in
theorem so_r : af_run 77 so_G none (0, so_s) = true := by decide +kernel
set_option maxRecDepth 1000000 in
theorem so_l : (so_G.2.2.2.2.2.2.1.take 0).all (fun q => af_pos q.2.1.2.2.2.2 q.2.2 && af_run 77 so_G (some q.2.2) (q.1, q.2.1)) = true := by decide +kernel
theorem so_w : ax_wf so_G.2.2.2.1 so_G.2.2.2.2.2.1 so_G.2.2.2.2.2.2.1 = true := by decide +kernel
theorem so_h : ∀ K ∈ so_G.2.2.1, af_Holds so_G.2.1 7 K := (af_HC ah_490 (by decide) (af_HC ah_493 (by decide) (af_HC ah_491 (by decide) (af_HC ah_510 (by decide) (af_HC ah_492 (by decide) (af_HC ah_589 (by decide) (af_HC ah_577 (by decide) (af_HC ah_581 (by decide) (af_HC ah_560 (by decide) af_HN)))))))))
def so2_G : af_G := ((11, 5, (some .boolean), mc_276), aw_Sh, [ak_490], 0, [(61, 4, 5), (61, 11, 15), (61, 17, 18)], [(0, [.inl (1, [])], [], ([], [], []))], [], [], [])
def so2_s : af_S := (0, [(0, .inr (.inl 61))], [], [], ([], [], []))
set_option maxRecDepth 1000000 in
theorem so2_r : af_run 10 so2_G none (235, so2_s) = true := by decide +kernel
set_option maxRecDepth 1000000 in
theorem so2_l : (so2_G.2.2.2.2.2.2.1.take 0).all (fun q => af_pos q.2.1.2.2.2.2 q.2.2 && af_run 10 so2_G (some q.2.2) (q.1, q.2.1)) = true := by decide +kernel
theorem so2_w : ax_wf so2_G.2.2.2.1 so2_G.2.2.2.2.2.1 so2_G.2.2.2.2.2.2.1 = true := by decide +kernel
theorem so2_h : ∀ K ∈ so2_G.2.2.1, af_Holds so2_G.2.1 7 K := (af_HC ah_490 (by decide) af_HN)
def so3_G : af_G := ((11, 5, (some .boolean), mc_276), aw_Sh, [ak_490], 0, [(61, 4, 5), (61, 11, 15), (61, 17, 18)], [(0, [.inl (1, [])], [], ([], [], []))], [], [], [])
def so3_s : af_S := (0, [(0, .inr (.inl 61))], [], [], ([], [], []))
set_option maxRecDepth 1000000 in
theorem so3_r : af_run 10 so3_G none (308, so3_s) = true := by decide +kernel
set_option maxRecDepth 1000000 in
theorem so3_l : (so3_G.2.2.2.2.2.2.1.take 0).all (fun q => af_pos q.2.1.2.2.2.2 q.2.2 && af_run 10 so3_G (some q.2.2) (q.1, q.2.1)) = true := by decide +kernel
theorem so3_w : ax_wf so3_G.2.2.2.1 so3_G.2.2.2.2.2.1 so3_G.2.2.2.2.2.2.1 = true := by decide +kernel
theorem so3_h : ∀ K ∈ so3_G.2.2.1, af_Holds so3_G.2.1 7 K := (af_HC ah_490 (by decide) af_HN)
def sb_G : af_G := ((11, 1, (some .boolean), mc_277), aw_Sh, [ak_491], 0, [], [], [(42, (1, [(0, .inr (.inl 61))], [.inl (0, [0]), .inr (.inl 61)], [], ([(0, 21, 22)], [], [])), [(0, 0, (0, []))]),
  (92, (0, [(0, .inr (.inl 61))], [], [], ([], [], [])), [(0, 0, (0, []))])], [], [])
def sb_s : af_S := (0, [(0, .inr (.inl 61))], [], [], ([], [], []))
set_option maxRecDepth 1000000 in
theorem sb_r : af_run 21 sb_G none (4, sb_s) = true := by decide +kernel
set_option maxRecDepth 1000000 in
theorem sb_l : (sb_G.2.2.2.2.2.2.1.take 0).all (fun q => af_pos q.2.1.2.2.2.2 q.2.2 && af_run 21 sb_G (some q.2.2) (q.1, q.2.1)) = true := by decide +kernel
theorem sb_w : ax_wf sb_G.2.2.2.1 sb_G.2.2.2.2.2.1 sb_G.2.2.2.2.2.2.1 = true := by decide +kernel
theorem sb_h : ∀ K ∈ sb_G.2.2.1, af_Holds sb_G.2.1 1 K := (af_HC ah_491 (by decide) af_HN)
def sb2_G : af_G := ((11, 1, (some .boolean), mc_277), aw_Sh, [ak_491], 1, [], [], [(70, (2, [(0, .inr (.inl 61))], [.inl (0, [1]), .inl (0, [0]), .inr (.inl 74)], [], ([(1, 21, 22), (0, 0, 45)], [], [])), [(0, 0, (0, []))])], [], [])
def sb2_s : af_S := (1, [(0, .inr (.inl 61))], [], [((61, 38), (0, [0]))], ([(0, 0, 45)], [], []))
set_option maxRecDepth 1000000 in
theorem sb2_r : af_run 16 sb2_G none (45, sb2_s) = true := by decide +kernel
set_option maxRecDepth 1000000 in
theorem sb2_l : (sb2_G.2.2.2.2.2.2.1.take 0).all (fun q => af_pos q.2.1.2.2.2.2 q.2.2 && af_run 16 sb2_G (some q.2.2) (q.1, q.2.1)) = true := by decide +kernel
theorem sb2_w : ax_wf sb2_G.2.2.2.1 sb2_G.2.2.2.2.2.1 sb2_G.2.2.2.2.2.2.1 = true := by decide +kernel
theorem sb2_h : ∀ K ∈ sb2_G.2.2.1, af_Holds sb2_G.2.1 1 K := (af_HC ah_491 (by decide) af_HN)
def sb3_G : af_G := ((11, 1, (some .boolean), mc_277), aw_Sh, [ak_490], 0, [(61, 4, 5), (61, 11, 15), (61, 17, 18)], [(0, [.inl (1, [])], [], ([], [], []))], [], [], [])
def sb3_s : af_S := (0, [(0, .inr (.inl 61))], [], [], ([], [], []))
set_option maxRecDepth 1000000 in
theorem sb3_r : af_run 10 sb3_G none (86, sb3_s) = true := by decide +kernel
set_option maxRecDepth 1000000 in
theorem sb3_l : (sb3_G.2.2.2.2.2.2.1.take 0).all (fun q => af_pos q.2.1.2.2.2.2 q.2.2 && af_run 10 sb3_G (some q.2.2) (q.1, q.2.1)) = true := by decide +kernel
theorem sb3_w : ax_wf sb3_G.2.2.2.1 sb3_G.2.2.2.2.2.1 sb3_G.2.2.2.2.2.2.1 = true := by decide +kernel
theorem sb3_h : ∀ K ∈ sb3_G.2.2.1, af_Holds sb3_G.2.1 7 K := (af_HC ah_490 (by decide) af_HN)
def sb4_G : af_G := ((11, 1, (some .boolean), mc_277), aw_Sh, [ak_493, ak_510], 1, [(61, 15, 17)], [(2, [.inl (0, [])], [((61, 15), (1, [])), ((61, 16), (0, [1]))], ([(1, 0, 940)], [], []))], [(120, (1, [(0, .inr (.inl 61))], [], [((61, 38), (0, [0]))], ([(0, 1, 45)], [], [])), [(0, 0, (0, []))])], [], [])
def sb4_s : af_S := (1, [(0, .inr (.inl 61))], [], [((61, 38), (0, [0]))], ([(0, 0, 45)], [], []))
set_option maxRecDepth 1000000 in
theorem sb4_r : af_run 17 sb4_G none (98, sb4_s) = true := by decide +kernel
set_option maxRecDepth 1000000 in
theorem sb4_l : (sb4_G.2.2.2.2.2.2.1.take 0).all (fun q => af_pos q.2.1.2.2.2.2 q.2.2 && af_run 17 sb4_G (some q.2.2) (q.1, q.2.1)) = true := by decide +kernel
theorem sb4_w : ax_wf sb4_G.2.2.2.1 sb4_G.2.2.2.2.2.1 sb4_G.2.2.2.2.2.2.1 = true := by decide +kernel
theorem sb4_h : ∀ K ∈ sb4_G.2.2.1, af_Holds sb4_G.2.1 1 K := (af_HC ah_493 (by decide) (af_HC ah_510 (by decide) af_HN))
def sb5_G : af_G := ((11, 1, (some .boolean), mc_277), aw_Sh, [ak_490], 0, [(61, 4, 5), (61, 11, 15), (61, 17, 18)], [(0, [.inl (1, [])], [], ([], [], []))], [], [], [])
def sb5_s : af_S := (0, [(0, .inr (.inl 61))], [], [], ([], [], []))
set_option maxRecDepth 1000000 in
theorem sb5_r : af_run 10 sb5_G none (140, sb5_s) = true := by decide +kernel
set_option maxRecDepth 1000000 in
theorem sb5_l : (sb5_G.2.2.2.2.2.2.1.take 0).all (fun q => af_pos q.2.1.2.2.2.2 q.2.2 && af_run 10 sb5_G (some q.2.2) (q.1, q.2.1)) = true := by decide +kernel
theorem sb5_w : ax_wf sb5_G.2.2.2.1 sb5_G.2.2.2.2.2.1 sb5_G.2.2.2.2.2.2.1 = true := by decide +kernel
theorem sb5_h : ∀ K ∈ sb5_G.2.2.1, af_Holds sb5_G.2.1 7 K := (af_HC ah_490 (by decide) af_HN)
def sc_G : af_G := ((11, 3, (some .int), mc_278), aw_Sh, [ak_790, ak_490], 0, [(61, 0, 1), (61, 2, 6), (61, 11, 16), (61, 17, 18), (61, 36, 41)], [], [(48, (0, [(0, .inr (.inl 61)), (1, .inl (1, []))], [], [((61, 36), (0, [])), ((61, 37), (0, [])), ((61, 38), (0, [])), ((61, 40), (0, []))], ([], [], [])), [(0, 0, (0, []))])], [], [])
def sc_s : af_S := (0, [(0, .inr (.inl 61))], [], [], ([], [], []))
set_option maxRecDepth 1000000 in
theorem sc_r : af_run 34 sc_G none (0, sc_s) = true := by decide +kernel
set_option maxRecDepth 1000000 in
theorem sc_l : (sc_G.2.2.2.2.2.2.1.take 0).all (fun q => af_pos q.2.1.2.2.2.2 q.2.2 && af_run 34 sc_G (some q.2.2) (q.1, q.2.1)) = true := by decide +kernel
theorem sc_w : ax_wf sc_G.2.2.2.1 sc_G.2.2.2.2.2.1 sc_G.2.2.2.2.2.2.1 = true := by decide +kernel
theorem sc_h : ∀ K ∈ sc_G.2.2.1, af_Holds sc_G.2.1 7 K := (af_HC ah_790 (by decide) (af_HC ah_490 (by decide) af_HN))
def sc2_G : af_G := ((11, 3, (some .int), mc_278), aw_Sh, [ak_493], 0, [(61, 15, 17)], [(2, [.inl (0, [0])], [((61, 15), (1, [])), ((61, 16), (0, [1]))], ([(0, (-941), (-1)), (1, 0, 940)], [], []))], [], [], [])
def sc2_s : af_S := (0, [(0, .inr (.inl 61))], [], [], ([], [], []))
set_option maxRecDepth 1000000 in
theorem sc2_r : af_run 15 sc2_G none (83, sc2_s) = true := by decide +kernel
set_option maxRecDepth 1000000 in
theorem sc2_l : (sc2_G.2.2.2.2.2.2.1.take 0).all (fun q => af_pos q.2.1.2.2.2.2 q.2.2 && af_run 15 sc2_G (some q.2.2) (q.1, q.2.1)) = true := by decide +kernel
theorem sc2_w : ax_wf sc2_G.2.2.2.1 sc2_G.2.2.2.2.2.1 sc2_G.2.2.2.2.2.2.1 = true := by decide +kernel
theorem sc2_h : ∀ K ∈ sc2_G.2.2.1, af_Holds sc2_G.2.1 1 K := (af_HC ah_493 (by decide) af_HN)
def sc3_G : af_G := ((11, 3, (some .int), mc_278), aw_Sh, [], 0, [], [(1, [.inl (0, [0])], [], ([(0, (-2147483648), 2147483647)], [], []))], [], [], [])
def sc3_s : af_S := (0, [(0, .inr (.inl 61))], [], [], ([], [], []))
set_option maxRecDepth 1000000 in
theorem sc3_r : af_run 11 sc3_G none (125, sc3_s) = true := by decide +kernel
set_option maxRecDepth 1000000 in
theorem sc3_l : (sc3_G.2.2.2.2.2.2.1.take 0).all (fun q => af_pos q.2.1.2.2.2.2 q.2.2 && af_run 11 sc3_G (some q.2.2) (q.1, q.2.1)) = true := by decide +kernel
theorem sc3_w : ax_wf sc3_G.2.2.2.1 sc3_G.2.2.2.2.2.1 sc3_G.2.2.2.2.2.2.1 = true := by decide +kernel
theorem sc3_h : ∀ K ∈ sc3_G.2.2.1, af_Holds sc3_G.2.1 0 K := af_HN
theorem hl_ref {n : Nat} {ρ : Nat → Int} {L : af_L} {lv : pi_L} (hL : af_Lo n ρ L lv) {i k : Nat} (h : (i, .inr (.inl k)) ∈ L) : pi_get lv i = some (.ref k) := by
  obtain ⟨v, h1, h2⟩ := hL _ h
  have h3 : v = .ref k := h2
  rw [← h3]
  exact h1
theorem hl_int {n : Nat} {ρ : Nat → Int} {L : af_L} {lv : pi_L} (hL : af_Lo n ρ L lv) {i : Nat} {f : af_F} (h : (i, .inl f) ∈ L) : ∃ x : Int32, pi_get lv i = some (.int x) ∧ x.toInt = af_ev ρ f := by
  obtain ⟨v, h1, -, x, rfl, h2⟩ := hL _ h
  exact ⟨x, h1, h2⟩
theorem hl_loc {n : Nat} {ρ : Nat → Int} {T : af_T} {w : pi_W} (hT : af_Sl n ρ T w) {c i : Nat} {f : af_F} (h : ((c, i), f) ∈ T) (hc : c ≠ af_virt) : ∃ x : Int32, af_wloc w c i = some (.int x) ∧ x.toInt = af_ev ρ f := by
  obtain ⟨-, x, h1, h2⟩ := hT _ h
  unfold af_loc at h1
  rw [if_neg hc] at h1
  exact ⟨x, h1, h2⟩
theorem hl_sl {n : Nat} {ρ : Nat → Int} {w : pi_W} {c i : Nat} {f : af_F} {x : Int32} (hf : af_wf n f) (h1 : af_wloc w c i = some (.int x)) (hc : c ≠ af_virt) (h2 : x.toInt = af_ev ρ f) : af_wf n f ∧ ∃ x : Int32, af_loc w c i = some (.int x) ∧ x.toInt = af_ev ρ f := by
  refine ⟨hf, x, ?_, h2⟩
  unfold af_loc
  rw [if_neg hc]
  exact h1
theorem hl_L0 {n : Nat} {ρ : Nat → Int} {lv : pi_L} (h : pi_get lv 0 = some (.ref 61)) : af_Lo n ρ [(0, .inr (.inl 61))] lv := by
  intro e he
  rcases List.mem_singleton.mp he with rfl
  exact ⟨_, h, rfl⟩
theorem hl_N0 {ρ : Nat → Int} {n : Nat} : af_Kn n ρ aw_Sh ([], [], []) := ⟨(fun e he => by cases he), (fun e he => by cases he), (fun e he => by cases he)⟩
theorem hl_Sat0 {pc : Nat} {lv : pi_L} {w : pi_W} {ρ : Nat → Int} (g0 : pi_get lv 0 = some (.ref 61)) (hC : af_Conf aw_Sh w) : af_Sat aw_Sh ρ (0, [(0, .inr (.inl 61))], [], [], ([], [], [])) (pc, lv, [], w) := ⟨hl_L0 g0, trivial, hC, (fun e he => by cases he), hl_N0⟩
theorem hn_e {x : Int32} {n : Nat} (h : x.toInt = (n : Int)) (hn : n < 1000) : x = Int32.ofNat n := Int32.toInt_inj.mp (by rw [hn_t hn]; exact h)
section HU
variable {own nL pc n : Nat} {ini : Bool} {lv : pi_L} {r : List Value} {w : pi_W}
theorem hs_m3 : pi_step own ini nL .imul 1 (pc, lv, .int (Int32.ofNat n) :: .int (Int32.ofInt 3) :: r, w) = some (pc + 1, lv, .int (Int32.ofNat (3 * n)) :: r, w) := by
  rw [Int32.ofNat_mul]
  rfl
theorem hs_p1 : pi_step own ini nL .iadd 1 (pc, lv, .int (Int32.ofInt 1) :: .int (Int32.ofNat n) :: r, w) = some (pc + 1, lv, .int (Int32.ofNat (n + 1)) :: r, w) := by
  rw [← hn_s]
  rfl
theorem hs_p2 : pi_step own ini nL .iadd 1 (pc, lv, .int (Int32.ofInt 2) :: .int (Int32.ofNat n) :: r, w) = some (pc + 1, lv, .int (Int32.ofNat (n + 2)) :: r, w) := by
  rw [Int32.ofNat_add]
  rfl
theorem hs_m1 : pi_step own ini nL .isub 1 (pc, lv, .int (Int32.ofInt 1) :: .int (Int32.ofNat (n + 1)) :: r, w) = some (pc + 1, lv, .int (Int32.ofNat n) :: r, w) := by
  have e : Int32.ofNat (n + 1) - Int32.ofInt 1 = Int32.ofNat n := by
    rw [← hn_s]
    exact Int32.add_sub_cancel _ _
  rw [← e]
  rfl
theorem hs_a231 : pi_step own ini nL .iadd 1 (pc, lv, .int (Int32.ofNat n) :: .int (Int16.ofInt 231).toInt32 :: r, w) = some (pc + 1, lv, .int (Int32.ofNat (231 + n)) :: r, w) := by
  rw [← hn_a]
  rfl
end HU
/-! ghosts -/
def rq1 (x z : Int32) (D : Nat) : Option Nat := if x = 20 then (if 1 ≤ D then some D else none) else if x = 21 ∨ x = 22 then (if 2 ≤ D then some (D - 1) else none) else if x = 2 ∧ ¬ (0 ≤ z.toInt ∧ z.toInt ≤ 5) then none else some (D + 1)
def rq (f : Nat → Int32) : Nat → Option Nat
  | 0 => some 0
  | c + 1 => (rq f c).bind (rq1 (f (3 * c)) (f (3 * c + 2)))
theorem rq_s (f : Nat → Int32) (c : Nat) : rq f (c + 1) = (rq f c).bind (rq1 (f (3 * c)) (f (3 * c + 2))) := rfl
theorem rq_cg {f g : Nat → Int32} : ∀ {c : Nat}, (∀ j, j < 3 * c → f j = g j) → rq f c = rq g c
  | 0, _ => rfl
  | c + 1, h => by
    rw [rq_s, rq_s, rq_cg (c := c) (fun j hj => h j (by omega)), h (3 * c) (by omega), h (3 * c + 2) (by omega)]
theorem rq_up (f : Nat → Int32) (c : Nat) (x y z : Int32) : rq (upd (upd (upd f (3 * c) x) (3 * c + 1) y) (3 * c + 2) z) (c + 1) = (rq f c).bind (rq1 x z) := by
  rw [rq_s]
  have e1 : rq (upd (upd (upd f (3 * c) x) (3 * c + 1) y) (3 * c + 2) z) c = rq f c := rq_cg (fun j hj => by
    unfold upd
    rw [if_neg (by omega), if_neg (by omega), if_neg (by omega)])
  rw [e1]
  have e2 : upd (upd (upd f (3 * c) x) (3 * c + 1) y) (3 * c + 2) z (3 * c) = x := by
    unfold upd
    rw [if_neg (by omega), if_neg (by omega), if_pos rfl]
  have e3 : upd (upd (upd f (3 * c) x) (3 * c + 1) y) (3 * c + 2) z (3 * c + 2) = z := by
    unfold upd
    rw [if_pos rfl]
  rw [e2, e3]
theorem rq1_leaf {x z : Int32} {D : Nat} (h1 : 0 ≤ x.toInt) (h2 : x.toInt ≤ 8) (h3 : x.toInt = 2 → 0 ≤ z.toInt ∧ z.toInt ≤ 5) : rq1 x z D = some (D + 1) := by
  have e20 : ¬ x = 20 := fun e => by
    have := congrArg Int32.toInt e
    rw [show (20 : Int32).toInt = 20 from rfl] at this
    omega
  have e21 : ¬ x = 21 := fun e => by
    have := congrArg Int32.toInt e
    rw [show (21 : Int32).toInt = 21 from rfl] at this
    omega
  have e22 : ¬ x = 22 := fun e => by
    have := congrArg Int32.toInt e
    rw [show (22 : Int32).toInt = 22 from rfl] at this
    omega
  unfold rq1
  rw [if_neg e20, if_neg (by rintro (q | q); exact e21 q; exact e22 q), if_neg]
  rintro ⟨q, q2⟩
  apply q2
  apply h3
  rw [q]
  rfl
def bn (k : Nat → Int32) : Nat → Nat
  | 0 => 0
  | t + 1 => bn k t + (if k t = 21 ∨ k t = 22 then 1 else 0)
theorem bn_s (k : Nat → Int32) (t : Nat) : bn k (t + 1) = bn k t + (if k t = 21 ∨ k t = 22 then 1 else 0) := rfl
theorem bn_cg {f g : Nat → Int32} : ∀ {t : Nat}, (∀ j, j < t → f j = g j) → bn f t = bn g t
  | 0, _ => rfl
  | t + 1, h => by
    rw [bn_s, bn_s, bn_cg (t := t) (fun j hj => h j (by omega)), h t (by omega)]
theorem bn_up (k : Nat → Int32) (t : Nat) (v : Int32) : bn (upd k t v) (t + 1) = bn k t + (if v = 21 ∨ v = 22 then 1 else 0) := by
  rw [bn_s]
  have e1 : bn (upd k t v) t = bn k t := bn_cg (fun j hj => by
    unfold upd
    rw [if_neg (by omega)])
  have e2 : upd k t v t = v := by
    unfold upd
    rw [if_pos rfl]
  rw [e1, e2]
def sg (w : pi_W) (c t o h : Nat) (rf kf : Nat → Int32) : Prop := af_wloc w 61 36 = some (.int (Int32.ofNat c)) ∧ af_wloc w 61 38 = some (.int (Int32.ofNat t)) ∧ af_wloc w 61 37 = some (.int (Int32.ofNat o)) ∧ af_wloc w 61 40 = some (.int (Int32.ofNat h)) ∧ (∀ j, j < 135 → af_wloc w 65 j = some (.int (rf j))) ∧ ∀ j, j < 45 → af_wloc w 74 j = some (.int (kf j))
def si (c t o h : Nat) (rf kf : Nat → Int32) : Prop := c + t + h ≤ 2 * o ∧ o ≤ 20 ∧ h ≤ 1 ∧ rq rf c = some (bn kf t + h)
def hs_M : af_M := [(61, 0, 2), (61, 3, 45), (65, 0, 135), (74, 0, 45)]
def sg_ok (M : af_M) : Bool := !af_cov M 61 36 36 && (!af_cov M 61 38 38 && (!af_cov M 61 37 37 && (!af_cov M 61 40 40 && M.all (fun e => e.1 != 65 && e.1 != 74))))
section SG
variable {w w' : pi_W} {c t o h : Nat} {rf kf : Nat → Int32}
theorem sg.fr {M : af_M} (g : sg w c t o h rf kf) (hF : af_Fr M w w') (hM : sg_ok M = true) : sg w' c t o h rf kf := by
  unfold sg_ok at hM
  simp only [Bool.and_eq_true, Bool.not_eq_true', List.all_eq_true, bne_iff_ne] at hM
  obtain ⟨h1, h2, h3, h4, h5⟩ := hM
  exact ⟨(hF 61 36 h1).trans g.1, (hF 61 38 h2).trans g.2.1, (hF 61 37 h3).trans g.2.2.1, (hF 61 40 h4).trans g.2.2.2.1, fun j hj => (hq_cell hF (fun e he => (h5 e he).1)).trans (g.2.2.2.2.1 j hj), fun j hj => (hq_cell hF (fun e he => (h5 e he).2)).trans (g.2.2.2.2.2 j hj)⟩
theorem sg.c1 {c' : Nat} (g : sg w c t o h rf kf) (hF : af_Fr [(61, 36, 36 + 1)] w w') (hv : af_wloc w' 61 36 = some (.int (Int32.ofNat c'))) : sg w' c' t o h rf kf :=
  ⟨hv, (hq_one hF (Or.inr (by decide))).trans g.2.1, (hq_one hF (Or.inr (by decide))).trans g.2.2.1, (hq_one hF (Or.inr (by decide))).trans g.2.2.2.1, fun j hj => (hq_one hF (Or.inl (by decide))).trans (g.2.2.2.2.1 j hj), fun j hj => (hq_one hF (Or.inl (by decide))).trans (g.2.2.2.2.2 j hj)⟩
theorem sg.t1 {t' : Nat} (g : sg w c t o h rf kf) (hF : af_Fr [(61, 38, 38 + 1)] w w') (hv : af_wloc w' 61 38 = some (.int (Int32.ofNat t'))) : sg w' c t' o h rf kf :=
  ⟨(hq_one hF (Or.inr (by decide))).trans g.1, hv, (hq_one hF (Or.inr (by decide))).trans g.2.2.1, (hq_one hF (Or.inr (by decide))).trans g.2.2.2.1, fun j hj => (hq_one hF (Or.inl (by decide))).trans (g.2.2.2.2.1 j hj), fun j hj => (hq_one hF (Or.inl (by decide))).trans (g.2.2.2.2.2 j hj)⟩
theorem sg.h1 {h' : Nat} (g : sg w c t o h rf kf) (hF : af_Fr [(61, 40, 40 + 1)] w w') (hv : af_wloc w' 61 40 = some (.int (Int32.ofNat h'))) : sg w' c t o h' rf kf :=
  ⟨(hq_one hF (Or.inr (by decide))).trans g.1, (hq_one hF (Or.inr (by decide))).trans g.2.1, (hq_one hF (Or.inr (by decide))).trans g.2.2.1, hv, fun j hj => (hq_one hF (Or.inl (by decide))).trans (g.2.2.2.2.1 j hj), fun j hj => (hq_one hF (Or.inl (by decide))).trans (g.2.2.2.2.2 j hj)⟩
theorem sg.r1 {n : Nat} {x : Int32} (g : sg w c t o h rf kf) (hF : af_Fr [(65, n, n + 1)] w w') (hv : af_wloc w' 65 n = some (.int x)) : sg w' c t o h (upd rf n x) kf := by
  refine ⟨(hq_one hF (Or.inl (by decide))).trans g.1, (hq_one hF (Or.inl (by decide))).trans g.2.1, (hq_one hF (Or.inl (by decide))).trans g.2.2.1, (hq_one hF (Or.inl (by decide))).trans g.2.2.2.1, fun j hj => ?_, fun j hj => (hq_one hF (Or.inl (by decide))).trans (g.2.2.2.2.2 j hj)⟩
  unfold upd
  by_cases e : j = n
  · rw [if_pos e, e]
    exact hv
  · rw [if_neg e]
    exact (hq_one hF (Or.inr e)).trans (g.2.2.2.2.1 j hj)
theorem sg.k1 {n : Nat} {x : Int32} (g : sg w c t o h rf kf) (hF : af_Fr [(74, n, n + 1)] w w') (hv : af_wloc w' 74 n = some (.int x)) : sg w' c t o h rf (upd kf n x) := by
  refine ⟨(hq_one hF (Or.inl (by decide))).trans g.1, (hq_one hF (Or.inl (by decide))).trans g.2.1, (hq_one hF (Or.inl (by decide))).trans g.2.2.1, (hq_one hF (Or.inl (by decide))).trans g.2.2.2.1, fun j hj => (hq_one hF (Or.inl (by decide))).trans (g.2.2.2.2.1 j hj), fun j hj => ?_⟩
  unfold upd
  by_cases e : j = n
  · rw [if_pos e, e]
    exact hv
  · rw [if_neg e]
    exact (hq_one hF (Or.inr e)).trans (g.2.2.2.2.2 j hj)
theorem hs_F1 {a n : Nat} (hF : af_Fr [(a, n, n + 1)] w w') (h : af_cov hs_M a n n = true) : af_Fr hs_M w w' := hq_fr hF (fun c i hc => by
  obtain ⟨e1, e2⟩ := hq_cov1.mp hc
  rw [← e1, e2]
  exact h)
end SG
theorem hs_cov {a n : Nat} (h : (a = 61 ∧ 3 ≤ n ∧ n < 45) ∨ (a = 65 ∧ n < 135) ∨ (a = 74 ∧ n < 45)) : af_cov hs_M a n n = true := by
  unfold af_cov hs_M
  simp only [List.any_cons, List.any_nil, Bool.or_false, Bool.or_eq_true, Bool.and_eq_true, beq_iff_eq, Nat.ble_eq, Nat.blt_eq]
  omega

theorem hs_code {d c t o h : Nat} {rf kf : Nat → Int32} {w : pi_W} (hC : af_Conf aw_Sh w) (g : sg w c t o h rf kf) (hc : c ≤ 44) (x y z : Int32) : hq_F d hm272 (fun r w' => r = none ∧ af_Conf aw_Sh w' ∧ af_Fr hs_M w w' ∧ sg w' (c + 1) t o h (upd (upd (upd rf (3 * c) x) (3 * c + 1) y) (3 * c + 2) z) kf) (0, lv_args 0 [.ref 61, .int x, .int y, .int z], [], w) := by
  have g0 : pi_get (lv_args 0 [.ref 61, .int x, .int y, .int z]) 0 = some (.ref 61) := rfl
  have g1 : pi_get (lv_args 0 [.ref 61, .int x, .int y, .int z]) 1 = some (.int x) := rfl
  have g2 : pi_get (lv_args 0 [.ref 61, .int x, .int y, .int z]) 2 = some (.int y) := rfl
  have g3 : pi_get (lv_args 0 [.ref 61, .int x, .int y, .int z]) 3 = some (.int z) := rfl
  revert g0 g1 g2 g3
  generalize lv_args 0 [.ref 61, .int x, .int y, .int z] = lv
  intro g0 g1 g2 g3
  refine hq_F.st (s' := (1, _, _, _)) hf272_0 rfl rfl rfl (hs_al g0) ?_
  refine hq_F.st (s' := (4, _, _, _)) hf272_1 rfl rfl rfl (hq_gf hC hq_s61 hk_40 (hq_ref hC hq_s61 (b := 65) rfl)) ?_
  refine hq_F.st (s' := (5, _, _, _)) hf272_4 rfl rfl rfl rfl ?_
  refine hq_F.st (s' := (6, _, _, _)) hf272_5 rfl rfl rfl (hs_al g0) ?_
  refine hq_F.st (s' := (9, _, _, _)) hf272_6 rfl rfl rfl (hq_gf hC hq_s61 hk_424 g.1) ?_
  refine hq_F.st (s' := (10, _, _, _)) hf272_9 rfl rfl rfl hs_m3 ?_
  refine hq_F.st (s' := (11, _, _, _)) hf272_10 rfl rfl rfl (hs_iln g1) ?_
  refine hq_F.is hf272_11 hC hq_s65 (hn_t (by omega)) (by omega) hq_any (fun w1 hC1 hF1 hv1 => ?_)
  have k1 := g.r1 hF1 hv1
  refine hq_F.st (s' := (13, _, _, _)) hf272_12 rfl rfl rfl (hs_al g0) ?_
  refine hq_F.st (s' := (16, _, _, _)) hf272_13 rfl rfl rfl (hq_gf hC1 hq_s61 hk_40 (hq_ref hC1 hq_s61 (b := 65) rfl)) ?_
  refine hq_F.st (s' := (17, _, _, _)) hf272_16 rfl rfl rfl rfl ?_
  refine hq_F.st (s' := (18, _, _, _)) hf272_17 rfl rfl rfl (hs_al g0) ?_
  refine hq_F.st (s' := (21, _, _, _)) hf272_18 rfl rfl rfl (hq_gf hC1 hq_s61 hk_424 k1.1) ?_
  refine hq_F.st (s' := (22, _, _, _)) hf272_21 rfl rfl rfl hs_m3 ?_
  refine hq_F.st (s' := (23, _, _, _)) hf272_22 rfl rfl rfl rfl ?_
  refine hq_F.st (s' := (24, _, _, _)) hf272_23 rfl rfl rfl hs_p1 ?_
  refine hq_F.st (s' := (25, _, _, _)) hf272_24 rfl rfl rfl (hs_iln g2) ?_
  refine hq_F.is hf272_25 hC1 hq_s65 (hn_t (by omega)) (by omega) hq_any (fun w2 hC2 hF2 hv2 => ?_)
  have k2 := k1.r1 hF2 hv2
  refine hq_F.st (s' := (27, _, _, _)) hf272_26 rfl rfl rfl (hs_al g0) ?_
  refine hq_F.st (s' := (30, _, _, _)) hf272_27 rfl rfl rfl (hq_gf hC2 hq_s61 hk_40 (hq_ref hC2 hq_s61 (b := 65) rfl)) ?_
  refine hq_F.st (s' := (31, _, _, _)) hf272_30 rfl rfl rfl rfl ?_
  refine hq_F.st (s' := (32, _, _, _)) hf272_31 rfl rfl rfl (hs_al g0) ?_
  refine hq_F.st (s' := (35, _, _, _)) hf272_32 rfl rfl rfl (hq_gf hC2 hq_s61 hk_424 k2.1) ?_
  refine hq_F.st (s' := (36, _, _, _)) hf272_35 rfl rfl rfl hs_m3 ?_
  refine hq_F.st (s' := (37, _, _, _)) hf272_36 rfl rfl rfl rfl ?_
  refine hq_F.st (s' := (38, _, _, _)) hf272_37 rfl rfl rfl hs_p2 ?_
  refine hq_F.st (s' := (39, _, _, _)) hf272_38 rfl rfl rfl (hs_iln g3) ?_
  refine hq_F.is hf272_39 hC2 hq_s65 (hn_t (by omega)) (by omega) hq_any (fun w3 hC3 hF3 hv3 => ?_)
  have k3 := k2.r1 hF3 hv3
  refine hq_F.st (s' := (41, _, _, _)) hf272_40 rfl rfl rfl (hs_al g0) ?_
  refine hq_F.st (s' := (42, _, _, _)) hf272_41 rfl rfl rfl rfl ?_
  refine hq_F.st (s' := (45, _, _, _)) hf272_42 rfl rfl rfl (hq_gf hC3 hq_s61 hk_424 k3.1) ?_
  refine hq_F.st (s' := (46, _, _, _)) hf272_45 rfl rfl rfl rfl ?_
  refine hq_F.st (s' := (47, _, _, _)) hf272_46 rfl rfl rfl hs_p1 ?_
  refine hq_F.pf hf272_47 hC3 hq_s61 hk_424 (lo := 0) (hi := 45) rfl (by rw [hn_t (by omega)]; omega) rfl rfl rfl (fun w4 hC4 hF4 hv4 => ?_)
  have k4 := k3.c1 hF4 hv4
  refine hq_F.en hf272_50 rfl rfl ⟨rfl, hC4, ?_, k4⟩
  exact (hs_F1 hF1 (hs_cov (by omega))).tr ((hs_F1 hF2 (hs_cov (by omega))).tr ((hs_F1 hF3 (hs_cov (by omega))).tr (hs_F1 hF4 (by decide))))
theorem e_20 : (Int8.ofInt 20).toInt32 = 20 := by decide
theorem e_21 : (Int8.ofInt 21).toInt32 = 21 := by decide
theorem e_22 : (Int8.ofInt 22).toInt32 = 22 := by decide
theorem hc_le0 {n : Nat} (h : n + 1 < 1000) : pi_cmp .le (Int32.ofNat (n + 1)) 0 = false := by
  simp only [pi_cmp, decide_eq_false_iff_not, Int32.le_iff_toInt_le]
  rw [hn_t h]
  have : (0 : Int32).toInt = 0 := rfl
  omega
def sj (w : pi_W) (o t : Nat) (kf : Nat → Int32) (w' : pi_W) (c' t' : Nat) (rf' : Nat → Int32) : Prop := af_Conf aw_Sh w' ∧ af_Fr hs_M w w' ∧ sg w' c' t' o 1 rf' kf ∧ si c' t' o 1 rf' kf ∧ t' ≤ t
theorem hs_joins {d o : Nat} {kf : Nat → Int32} (till : Int32) : ∀ (t : Nat) {c : Nat} {rf : Nat → Int32} {w : pi_W} {lv : pi_L}, af_Conf aw_Sh w → sg w c t o 1 rf kf → si c t o 1 rf kf → pi_get lv 0 = some (.ref 61) → pi_get lv 1 = some (.int till) → hq_F (d + 1) hm273 (fun r w' => r = none ∧ ∃ c' t' rf', sj w o t kf w' c' t' rf' ∧ (till = 22 → t' = 0 ∨ ¬ (kf (t' - 1) = 21 ∨ kf (t' - 1) = 22))) (0, lv, [], w) := by
  intro t
  induction t with
  | zero =>
    intro c rf w lv hC g hs g0 g1
    refine hq_F.st (s' := (1, _, _, _)) hf273_0 rfl rfl rfl (hs_al g0) ?_
    refine hq_F.st (s' := (4, _, _, _)) hf273_1 rfl rfl rfl (hq_gf hC hq_s61 hk_427 g.2.1) ?_
    refine hq_F.st (s' := (73, _, _, _)) hf273_4 rfl rfl rfl (hs_if rfl rfl) ?_
    exact hq_F.en hf273_73 rfl rfl ⟨rfl, c, 0, rf, ⟨hC, af_Fr.rf _ _, g, hs, Nat.le_refl _⟩, fun _ => Or.inl rfl⟩
  | succ t ih =>
    intro c rf w lv hC g hs g0 g1
    have hs0 := hs
    obtain ⟨s1, s2, s3, s4⟩ := hs
    have hstop : ¬ (kf t = 21 ∨ kf t = 22 ∧ till = 22) → hq_F (d + 1) hm273 (fun r w' => r = none ∧ ∃ c' t' rf', sj w o (t + 1) kf w' c' t' rf' ∧ (till = 22 → t' = 0 ∨ ¬ (kf (t' - 1) = 21 ∨ kf (t' - 1) = 22))) (73, lv, [], w) := by
      intro hn
      refine hq_F.en hf273_73 rfl rfl ⟨rfl, c, t + 1, rf, ⟨hC, af_Fr.rf _ _, g, hs0, Nat.le_refl _⟩, fun ht => Or.inr ?_⟩
      rintro (q | q)
      · exact hn (Or.inl q)
      · exact hn (Or.inr ⟨q, ht⟩)
    have hgo : (kf t = 21 ∨ kf t = 22) → hq_F (d + 1) hm273 (fun r w' => r = none ∧ ∃ c' t' rf', sj w o (t + 1) kf w' c' t' rf' ∧ (till = 22 → t' = 0 ∨ ¬ (kf (t' - 1) = 21 ∨ kf (t' - 1) = 22))) (45, lv, [], w) := by
      intro hk
      refine hq_F.st (s' := (46, _, _, _)) hf273_45 rfl rfl rfl (hs_al g0) ?_
      refine hq_F.st (s' := (47, _, _, _)) hf273_46 rfl rfl rfl rfl ?_
      refine hq_F.st (s' := (50, _, _, _)) hf273_47 rfl rfl rfl (hq_gf hC hq_s61 hk_427 g.2.1) ?_
      refine hq_F.st (s' := (51, _, _, _)) hf273_50 rfl rfl rfl rfl ?_
      refine hq_F.st (s' := (52, _, _, _)) hf273_51 rfl rfl rfl hs_m1 ?_
      refine hq_F.pf hf273_52 hC hq_s61 hk_427 (lo := 0) (hi := 45) rfl (by rw [hn_t (by omega)]; omega) rfl rfl rfl (fun w1 hC1 hF1 hv1 => ?_)
      have k1 := g.t1 hF1 hv1
      refine hq_F.st (s' := (56, _, _, _)) hf273_55 rfl rfl rfl (hs_al g0) ?_
      refine hq_F.st (s' := (57, _, _, _)) hf273_56 rfl rfl rfl (hs_al g0) ?_
      refine hq_F.st (s' := (60, _, _, _)) hf273_57 rfl rfl rfl (hq_gf hC1 hq_s61 hk_68 (hq_ref hC1 hq_s61 (b := 74) rfl)) ?_
      refine hq_F.st (s' := (61, _, _, _)) hf273_60 rfl rfl rfl (hs_al g0) ?_
      refine hq_F.st (s' := (64, _, _, _)) hf273_61 rfl rfl rfl (hq_gf hC1 hq_s61 hk_427 k1.2.1) ?_
      refine hq_F.st (s' := (65, _, _, _)) hf273_64 rfl rfl rfl (hq_ia hC1 hq_s74 (hn_t (by omega)) (k1.2.2.2.2.2 t (by omega))) ?_
      refine hq_F.st (s' := (66, _, _, _)) hf273_65 rfl rfl rfl rfl ?_
      refine hq_F.st (s' := (67, _, _, _)) hf273_66 rfl rfl rfl rfl ?_
      refine hq_F.call hf273_67 rfl rfl hi_430 (by decide) (by decide) pz_272 (hq_args (mz := hm272) hC1 (As := [.int (kf t), .int (Int32.ofInt 0), .int (Int32.ofInt 0)]) rfl rfl rfl (Nat.zero_le _) rfl (Nat.le_refl _) rfl (by decide)) (hs_code hC1 k1 (by omega) (kf t) (Int32.ofInt 0) (Int32.ofInt 0)) (fun r w' q => by rw [q.2.1.1, hC1.1]) ?_
      rintro r w2 ⟨rfl, hC2, hF2, k2⟩
      have hF : af_Fr hs_M w w2 := (hs_F1 hF1 (by decide)).tr hF2
      have hb : bn kf (t + 1) = bn kf t + 1 := by
        rw [bn_s, if_pos hk]
      have hsi : si (c + 1) t o 1 (upd (upd (upd rf (3 * c) (kf t)) (3 * c + 1) (Int32.ofInt 0)) (3 * c + 2) (Int32.ofInt 0)) kf := by
        refine ⟨by omega, s2, s3, ?_⟩
        rw [rq_up, s4, hb]
        unfold rq1
        have e20 : ¬ kf t = 20 := by
          rcases hk with q | q <;> rw [q] <;> decide
        show (if kf t = 20 then _ else _) = _
        rw [if_neg e20, if_pos hk, if_pos (by omega)]
        rfl
      refine hq_F.st (s' := (0, _, _, _)) hf273_70 rfl rfl rfl rfl ?_
      refine (ih hC2 k2 hsi g0 g1).imp ?_
      rintro r w3 ⟨rfl, c', t', rf', ⟨p1, p2, p3, p4, p5⟩, p6⟩
      exact ⟨rfl, c', t', rf', ⟨p1, hF.tr p2, p3, p4, by omega⟩, p6⟩
    refine hq_F.st (s' := (1, _, _, _)) hf273_0 rfl rfl rfl (hs_al g0) ?_
    refine hq_F.st (s' := (4, _, _, _)) hf273_1 rfl rfl rfl (hq_gf hC hq_s61 hk_427 g.2.1) ?_
    refine hq_F.st (s' := (7, _, _, _)) hf273_4 rfl rfl rfl (hs_ifn (t := 73) (hc_le0 (by omega)) rfl) ?_
    refine hq_F.st (s' := (8, _, _, _)) hf273_7 rfl rfl rfl (hs_al g0) ?_
    refine hq_F.st (s' := (11, _, _, _)) hf273_8 rfl rfl rfl (hq_gf hC hq_s61 hk_68 (hq_ref hC hq_s61 (b := 74) rfl)) ?_
    refine hq_F.st (s' := (12, _, _, _)) hf273_11 rfl rfl rfl (hs_al g0) ?_
    refine hq_F.st (s' := (15, _, _, _)) hf273_12 rfl rfl rfl (hq_gf hC hq_s61 hk_427 g.2.1) ?_
    refine hq_F.st (s' := (16, _, _, _)) hf273_15 rfl rfl rfl rfl ?_
    refine hq_F.st (s' := (17, _, _, _)) hf273_16 rfl rfl rfl hs_m1 ?_
    refine hq_F.st (s' := (18, _, _, _)) hf273_17 rfl rfl rfl (hq_ia hC hq_s74 (hn_t (by omega)) (g.2.2.2.2.2 t (by omega))) ?_
    refine hq_F.st (s' := (20, _, _, _)) hf273_18 rfl rfl rfl rfl ?_
    rw [e_21]
    by_cases h1 : kf t = 21
    · refine hq_F.st (s' := (45, _, _, _)) hf273_20 rfl rfl rfl (hs_ic (hc_eq h1) rfl) ?_
      exact hgo (Or.inl h1)
    · refine hq_F.st (s' := (23, _, _, _)) hf273_20 rfl rfl rfl (hs_icn (t := 45) (hc_eqn h1) rfl) ?_
      refine hq_F.st (s' := (24, _, _, _)) hf273_23 rfl rfl rfl (hs_al g0) ?_
      refine hq_F.st (s' := (27, _, _, _)) hf273_24 rfl rfl rfl (hq_gf hC hq_s61 hk_68 (hq_ref hC hq_s61 (b := 74) rfl)) ?_
      refine hq_F.st (s' := (28, _, _, _)) hf273_27 rfl rfl rfl (hs_al g0) ?_
      refine hq_F.st (s' := (31, _, _, _)) hf273_28 rfl rfl rfl (hq_gf hC hq_s61 hk_427 g.2.1) ?_
      refine hq_F.st (s' := (32, _, _, _)) hf273_31 rfl rfl rfl rfl ?_
      refine hq_F.st (s' := (33, _, _, _)) hf273_32 rfl rfl rfl hs_m1 ?_
      refine hq_F.st (s' := (34, _, _, _)) hf273_33 rfl rfl rfl (hq_ia hC hq_s74 (hn_t (by omega)) (g.2.2.2.2.2 t (by omega))) ?_
      refine hq_F.st (s' := (36, _, _, _)) hf273_34 rfl rfl rfl rfl ?_
      rw [e_22]
      by_cases h2 : kf t = 22
      · refine hq_F.st (s' := (39, _, _, _)) hf273_36 rfl rfl rfl (hs_icn (t := 73) (hc_nen h2) rfl) ?_
        refine hq_F.st (s' := (40, _, _, _)) hf273_39 rfl rfl rfl (hs_iln g1) ?_
        refine hq_F.st (s' := (42, _, _, _)) hf273_40 rfl rfl rfl rfl ?_
        rw [e_22]
        by_cases h3 : till = 22
        · refine hq_F.st (s' := (45, _, _, _)) hf273_42 rfl rfl rfl (hs_icn (t := 73) (hc_nen h3) rfl) ?_
          exact hgo (Or.inr h2)
        · refine hq_F.st (s' := (73, _, _, _)) hf273_42 rfl rfl rfl (hs_ic (hc_ne h3) rfl) ?_
          exact hstop (by rintro (q | q); exact h1 q; exact h3 q.2)
      · refine hq_F.st (s' := (73, _, _, _)) hf273_36 rfl rfl rfl (hs_ic (hc_ne h2) rfl) ?_
        exact hstop (by rintro (q | q); exact h1 q; exact h2 q.1)
theorem hs_nots {d o : Nat} {kf : Nat → Int32} : ∀ (t : Nat) {c : Nat} {rf : Nat → Int32} {w : pi_W} {lv : pi_L}, af_Conf aw_Sh w → sg w c t o 1 rf kf → si c t o 1 rf kf → pi_get lv 0 = some (.ref 61) → hq_F (d + 1) hm274 (fun r w' => r = none ∧ ∃ c' t' rf', sj w o t kf w' c' t' rf') (0, lv, [], w) := by
  intro t
  induction t with
  | zero =>
    intro c rf w lv hC g hs g0
    refine hq_F.st (s' := (1, _, _, _)) hf274_0 rfl rfl rfl (hs_al g0) ?_
    refine hq_F.st (s' := (4, _, _, _)) hf274_1 rfl rfl rfl (hq_gf hC hq_s61 hk_427 g.2.1) ?_
    refine hq_F.st (s' := (54, _, _, _)) hf274_4 rfl rfl rfl (hs_if rfl rfl) ?_
    exact hq_F.en hf274_54 rfl rfl ⟨rfl, c, 0, rf, hC, af_Fr.rf _ _, g, hs, Nat.le_refl _⟩
  | succ t ih =>
    intro c rf w lv hC g hs g0
    have hs0 := hs
    obtain ⟨s1, s2, s3, s4⟩ := hs
    refine hq_F.st (s' := (1, _, _, _)) hf274_0 rfl rfl rfl (hs_al g0) ?_
    refine hq_F.st (s' := (4, _, _, _)) hf274_1 rfl rfl rfl (hq_gf hC hq_s61 hk_427 g.2.1) ?_
    refine hq_F.st (s' := (7, _, _, _)) hf274_4 rfl rfl rfl (hs_ifn (t := 54) (hc_le0 (by omega)) rfl) ?_
    refine hq_F.st (s' := (8, _, _, _)) hf274_7 rfl rfl rfl (hs_al g0) ?_
    refine hq_F.st (s' := (11, _, _, _)) hf274_8 rfl rfl rfl (hq_gf hC hq_s61 hk_68 (hq_ref hC hq_s61 (b := 74) rfl)) ?_
    refine hq_F.st (s' := (12, _, _, _)) hf274_11 rfl rfl rfl (hs_al g0) ?_
    refine hq_F.st (s' := (15, _, _, _)) hf274_12 rfl rfl rfl (hq_gf hC hq_s61 hk_427 g.2.1) ?_
    refine hq_F.st (s' := (16, _, _, _)) hf274_15 rfl rfl rfl rfl ?_
    refine hq_F.st (s' := (17, _, _, _)) hf274_16 rfl rfl rfl hs_m1 ?_
    refine hq_F.st (s' := (18, _, _, _)) hf274_17 rfl rfl rfl (hq_ia hC hq_s74 (hn_t (by omega)) (g.2.2.2.2.2 t (by omega))) ?_
    refine hq_F.st (s' := (20, _, _, _)) hf274_18 rfl rfl rfl rfl ?_
    rw [e_20]
    by_cases h1 : kf t = 20
    · refine hq_F.st (s' := (23, _, _, _)) hf274_20 rfl rfl rfl (hs_icn (t := 54) (hc_nen h1) rfl) ?_
      refine hq_F.st (s' := (24, _, _, _)) hf274_23 rfl rfl rfl (hs_al g0) ?_
      refine hq_F.st (s' := (25, _, _, _)) hf274_24 rfl rfl rfl rfl ?_
      refine hq_F.st (s' := (28, _, _, _)) hf274_25 rfl rfl rfl (hq_gf hC hq_s61 hk_427 g.2.1) ?_
      refine hq_F.st (s' := (29, _, _, _)) hf274_28 rfl rfl rfl rfl ?_
      refine hq_F.st (s' := (30, _, _, _)) hf274_29 rfl rfl rfl hs_m1 ?_
      refine hq_F.pf hf274_30 hC hq_s61 hk_427 (lo := 0) (hi := 45) rfl (by rw [hn_t (by omega)]; omega) rfl rfl rfl (fun w1 hC1 hF1 hv1 => ?_)
      have k1 := g.t1 hF1 hv1
      obtain ⟨dp, hdp, -⟩ := hq_int hC1 (c := 61) (i := 39) (by decide) rfl
      refine hq_F.st (s' := (34, _, _, _)) hf274_33 rfl rfl rfl (hs_al g0) ?_
      refine hq_F.st (s' := (35, _, _, _)) hf274_34 rfl rfl rfl rfl ?_
      refine hq_F.st (s' := (38, _, _, _)) hf274_35 rfl rfl rfl (hq_gf hC1 hq_s61 hk_433 hdp) ?_
      refine hq_F.st (s' := (39, _, _, _)) hf274_38 rfl rfl rfl rfl ?_
      refine hq_F.st (s' := (40, _, _, _)) hf274_39 rfl rfl rfl rfl ?_
      refine hq_F.pf hf274_40 hC1 hq_s61 hk_433 (lo := -2147483648) (hi := 2147483647) rfl (af_i32 _) rfl rfl rfl (fun w2 hC2 hF2 hv2 => ?_)
      have k2 := k1.fr hF2 (by decide)
      refine hq_F.st (s' := (44, _, _, _)) hf274_43 rfl rfl rfl (hs_al g0) ?_
      refine hq_F.st (s' := (46, _, _, _)) hf274_44 rfl rfl rfl rfl ?_
      refine hq_F.st (s' := (47, _, _, _)) hf274_46 rfl rfl rfl rfl ?_
      refine hq_F.st (s' := (48, _, _, _)) hf274_47 rfl rfl rfl rfl ?_
      rw [e_20]
      refine hq_F.call hf274_48 rfl rfl hi_430 (by decide) (by decide) pz_272 (hq_args (mz := hm272) hC2 (As := [.int 20, .int (Int32.ofInt 0), .int (Int32.ofInt 0)]) rfl rfl rfl (Nat.zero_le _) rfl (Nat.le_refl _) rfl (by decide)) (hs_code hC2 k2 (by omega) 20 (Int32.ofInt 0) (Int32.ofInt 0)) (fun r w' q => by rw [q.2.1.1, hC2.1]) ?_
      rintro r w3 ⟨rfl, hC3, hF3, k3⟩
      have hF : af_Fr hs_M w w3 := (hs_F1 hF1 (by decide)).tr ((hs_F1 hF2 (by decide)).tr hF3)
      have hb : bn kf (t + 1) = bn kf t := by
        rw [bn_s, h1, if_neg (by decide)]
        rfl
      have hsi : si (c + 1) t o 1 (upd (upd (upd rf (3 * c) 20) (3 * c + 1) (Int32.ofInt 0)) (3 * c + 2) (Int32.ofInt 0)) kf := by
        refine ⟨by omega, s2, s3, ?_⟩
        rw [rq_up, s4, hb]
        show rq1 20 (Int32.ofInt 0) (bn kf t + 1) = _
        unfold rq1
        rw [if_pos rfl, if_pos (by omega)]
      refine hq_F.st (s' := (0, _, _, _)) hf274_51 rfl rfl rfl rfl ?_
      refine (ih hC3 k3 hsi g0).imp ?_
      rintro r w4 ⟨rfl, c', t', rf', p1, p2, p3, p4, p5⟩
      exact ⟨rfl, c', t', rf', p1, hF.tr p2, p3, p4, by omega⟩
    · refine hq_F.st (s' := (54, _, _, _)) hf274_20 rfl rfl rfl (hs_ic (hc_ne h1) rfl) ?_
      exact hq_F.en hf274_54 rfl rfl ⟨rfl, c, t + 1, rf, hC, af_Fr.rf _ _, g, hs0, Nat.le_refl _⟩
theorem hl_res {n : Nat} {ρ : Nat → Int} {f : af_F} {r : Option Value} (h : af_St n ρ [.inl f] r.toList) : ∃ x : Int32, r = some (.int x) ∧ x.toInt = af_ev ρ f := by
  obtain ⟨x, vs, h1, -, h2, h3⟩ := st_i h
  cases r with
  | none => cases h1
  | some v =>
    have h4 : [v] = .int x :: vs := h1
    cases h4
    exact ⟨x, rfl, h2⟩
theorem hn_0 {x : Int32} (h : x.toInt = 0) : x = 0 := Int32.toInt_inj.mp h
theorem hn_1e {x : Int32} (h : x.toInt = 1) : x = 1 := Int32.toInt_inj.mp h
def sq_O (w : pi_W) (o t : Nat) (r : Option Value) (w' : pi_W) : Prop := af_Conf aw_Sh w' ∧ af_Fr hs_M w w' ∧ (r = some (.int 0) ∨ (r = some (.int 1) ∧ ∃ c' t' h' rf' kf', sg w' c' t' (o + 1) h' rf' kf' ∧ si c' t' (o + 1) h' rf' kf' ∧ t' ≤ t + 1))
/-- a leaf's code is put down -/
theorem hs_leaf {c t o : Nat} {rf kf : Nat → Int32} {x y z : Int32} (hs : si c t o 0 rf kf) (ho : o ≤ 19) (h1 : 0 ≤ x.toInt) (h2 : x.toInt ≤ 8) (h3 : x.toInt = 2 → 0 ≤ z.toInt ∧ z.toInt ≤ 5) : si (c + 1) t (o + 1) 1 (upd (upd (upd rf (3 * c) x) (3 * c + 1) y) (3 * c + 2) z) kf := by
  obtain ⟨s1, s2, s3, s4⟩ := hs
  refine ⟨by omega, by omega, by omega, ?_⟩
  rw [rq_up, s4]
  exact rq1_leaf h1 h2 h3
theorem hs_operand {d c t o : Nat} {rf kf : Nat → Int32} {w : pi_W} {lv : pi_L} (hd : 7 ≤ d) (hC : af_Conf aw_Sh w) (g : sg w c t o 0 rf kf) (hs : si c t o 0 rf kf) (g0 : pi_get lv 0 = some (.ref 61)) : hq_F (d + 1) hm276 (sq_O w o t) (0, lv, [], w) := by
  have hs0 := hs
  obtain ⟨s1, s2, s3, s4⟩ := hs
  have hSat : af_Sat aw_Sh (fun _ => (o : Int)) so_s (0, lv, [], w) := by
    refine ⟨hl_L0 g0, trivial, hC, ?_, ?_, (fun e he => by cases he), (fun e he => by cases he)⟩
    · intro e he
      simp only [so_s, List.mem_cons, List.not_mem_nil, or_false] at he
      rcases he with rfl | rfl
      · exact hl_sl (by intro v hv; simp at hv; subst hv; decide) g.2.2.1 (by decide) (by rw [af_ev_1, hn_t (by omega)]; omega)
      · exact hl_sl (by intro v hv; cases hv) g.2.2.2.1 (by decide) rfl
    · intro e he
      simp only [so_s, List.mem_singleton] at he
      subst he
      exact ⟨by decide, by dsimp only; omega, by dsimp only; omega⟩
  refine ax_seg (Φ := hq_F _ _ _) (G := so_G) (d := d) (mi := hm276) (nl := 0) (ρ0 := fun _ => (o : Int)) rfl (fun K hK => (so_h K hK).mono hd) so_w so_l so_r rfl hSat (fun s s' h1 h2 => hq_F.to h1 h2) (fun s hfin => hq_fin hfin (fun r w' hC' hF' hP' => ?_)) (fun s' q ρ' hq hpc hS hag hF => ?_)
  · obtain ⟨P, hPm, ρ2, -, hst, -⟩ := hP'
    simp only [so_G, List.mem_singleton] at hPm
    subst hPm
    obtain ⟨x, rfl, hx⟩ := hl_res hst
    rw [af_ev_c] at hx
    exact ⟨hC', hF'.cov (by decide), Or.inl (by rw [hn_0 hx])⟩
  · obtain ⟨pc', lv', st', w1⟩ := s'
    have hag0 : ρ' 0 = (o : Int) := hag 0 (by decide)
    have hFM : af_Fr hs_M w w1 := hF.cov (by decide)
    have k36 := (hF 61 36 (by decide)).trans g.1
    have k38 := (hF 61 38 (by decide)).trans g.2.1
    have kr : ∀ j, j < 135 → af_wloc w1 65 j = some (.int (rf j)) := fun j hj => (hq_cell hF (by decide)).trans (g.2.2.2.2.1 j hj)
    have kk : ∀ j, j < 45 → af_wloc w1 74 j = some (.int (kf j)) := fun j hj => (hq_cell hF (by decide)).trans (g.2.2.2.2.2 j hj)
    simp only [so_G, List.drop, List.mem_cons, List.not_mem_nil, or_false] at hq
    have hones : ∀ {n : Nat} {T : af_T}, af_Sl n ρ' T w1 → ((61, 37), (1, [0])) ∈ T → af_wloc w1 61 37 = some (.int (Int32.ofNat (o + 1))) := by
      intro n T hT hm
      obtain ⟨xo, ho1, ho2⟩ := hl_loc hT hm (by decide)
      rw [af_ev_1, hag0] at ho2
      rw [ho1, hn_e (x := xo) (n := o + 1) (by omega) (by omega)]
    have hwh1 : ∀ {n : Nat} {T : af_T}, af_Sl n ρ' T w1 → ((61, 40), (1, [])) ∈ T → af_wloc w1 61 40 = some (.int (Int32.ofNat 1)) := by
      intro n T hT hm
      obtain ⟨xo, ho1, ho2⟩ := hl_loc hT hm (by decide)
      rw [af_ev_c] at ho2
      rw [ho1, hn_e (x := xo) (n := 1) (by omega) (by omega)]
    rcases hq with rfl | rfl | rfl | rfl | rfl
    · dsimp only at hpc hS
      subst hpc
      obtain ⟨hL, hst, hC1, hT, hK⟩ := hS
      replace hC1 : af_Conf aw_Sh _ := hC1
      dsimp only at hL hst hT hK hC1
      have hstn := af_St.nil hst
      subst hstn
      have g0 := hl_ref hL (i := 0) (k := 61) (by simp)
      obtain ⟨x1, g1, hx1⟩ := hl_int hL (i := 1) (f := (0, [1])) (by simp)
      obtain ⟨xh, hh1, hh2⟩ := hl_loc hT (c := 61) (i := 40) (f := (0, [])) (by simp) (by decide)
      rw [af_ev_c] at hh2
      have ho19 := (hK.1 (0, 0, 19) (by simp)).2
      dsimp only at ho19
      have k1 : sg w1 c t (o + 1) 0 rf kf := ⟨k36, k38, hones hT (by simp), by rw [hh1, hn_e (x := xh) (n := 0) hh2 (by omega)], kr, kk⟩
      have hpush : ∀ v : Int32, ¬ (v = 21 ∨ v = 22) → hq_F (d + 1) hm276 (sq_O w o t) (103, lv', [.int v, .int (Int32.ofNat t), .ref 74], w1) := by
        intro v hv
        refine hq_F.is hf276_103 hC1 hq_s74 (hn_t (by omega)) (by omega) hq_any (fun w2 hC2 hF2 hv2 => ?_)
        have k2 := k1.k1 hF2 hv2
        refine hq_F.st (s' := (105, _, _, _)) hf276_104 rfl rfl rfl (hs_al g0) ?_
        refine hq_F.st (s' := (106, _, _, _)) hf276_105 rfl rfl rfl rfl ?_
        refine hq_F.st (s' := (109, _, _, _)) hf276_106 rfl rfl rfl (hq_gf hC2 hq_s61 hk_427 k2.2.1) ?_
        refine hq_F.st (s' := (110, _, _, _)) hf276_109 rfl rfl rfl rfl ?_
        refine hq_F.st (s' := (111, _, _, _)) hf276_110 rfl rfl rfl hs_p1 ?_
        refine hq_F.pf hf276_111 hC2 hq_s61 hk_427 (lo := 0) (hi := 45) rfl (by rw [hn_t (by omega)]; omega) rfl rfl rfl (fun w3 hC3 hF3 hv3 => ?_)
        have k3 := k2.t1 hF3 hv3
        obtain ⟨dp, hdp, -⟩ := hq_int hC3 (c := 61) (i := 39) (by decide) rfl
        refine hq_F.st (s' := (115, _, _, _)) hf276_114 rfl rfl rfl (hs_al g0) ?_
        refine hq_F.st (s' := (116, _, _, _)) hf276_115 rfl rfl rfl rfl ?_
        refine hq_F.st (s' := (119, _, _, _)) hf276_116 rfl rfl rfl (hq_gf hC3 hq_s61 hk_433 hdp) ?_
        refine hq_F.st (s' := (120, _, _, _)) hf276_119 rfl rfl rfl rfl ?_
        refine hq_F.st (s' := (121, _, _, _)) hf276_120 rfl rfl rfl rfl ?_
        refine hq_F.pf hf276_121 hC3 hq_s61 hk_433 (lo := -2147483648) (hi := 2147483647) rfl (af_i32 _) rfl rfl rfl (fun w4 hC4 hF4 hv4 => ?_)
        have k4 := k3.fr hF4 (by decide)
        refine hq_F.st (s' := (125, _, _, _)) hf276_124 rfl rfl rfl rfl ?_
        refine hq_F.en hf276_125 rfl rfl ⟨hC4, hFM.tr ((hs_F1 hF2 (hs_cov (by omega))).tr ((hs_F1 hF3 (by decide)).tr (hs_F1 hF4 (by decide)))), Or.inr ⟨rfl, c, t + 1, 0, rf, upd kf t v, k4, ?_, by omega⟩⟩
        refine ⟨by omega, by omega, by omega, ?_⟩
        rw [bn_up, if_neg hv]
        exact s4
      refine hq_F.st (s' := (85, _, _, _)) hf276_84 rfl rfl rfl (hs_al g0) ?_
      refine hq_F.st (s' := (88, _, _, _)) hf276_85 rfl rfl rfl (hq_gf hC1 hq_s61 hk_68 (hq_ref hC1 hq_s61 (b := 74) rfl)) ?_
      refine hq_F.st (s' := (89, _, _, _)) hf276_88 rfl rfl rfl (hs_al g0) ?_
      refine hq_F.st (s' := (92, _, _, _)) hf276_89 rfl rfl rfl (hq_gf hC1 hq_s61 hk_427 k38) ?_
      refine hq_F.st (s' := (93, _, _, _)) hf276_92 rfl rfl rfl (hs_iln g1) ?_
      by_cases h1 : x1 = 0
      · refine hq_F.st (s' := (101, _, _, _)) hf276_93 rfl rfl rfl (hs_if (hc_eq h1) rfl) ?_
        refine hq_F.st (s' := (103, _, _, _)) hf276_101 rfl rfl rfl rfl ?_
        exact hpush _ (by decide)
      · refine hq_F.st (s' := (96, _, _, _)) hf276_93 rfl rfl rfl (hs_ifn (t := 101) (hc_eqn h1) rfl) ?_
        refine hq_F.st (s' := (98, _, _, _)) hf276_96 rfl rfl rfl rfl ?_
        refine hq_F.st (s' := (103, _, _, _)) hf276_98 rfl rfl rfl rfl ?_
        exact hpush _ (by decide)
    · dsimp only at hpc hS
      subst hpc
      obtain ⟨hL, hst, hC1, hT, hK⟩ := hS
      replace hC1 : af_Conf aw_Sh _ := hC1
      dsimp only at hL hst hT hK hC1
      have hstn := af_St.nil hst
      subst hstn
      have g0 := hl_ref hL (i := 0) (k := 61) (by simp)
      obtain ⟨x3, g3, hx3⟩ := hl_int hL (i := 3) (f := (0, [1])) (by simp)
      rw [af_ev_1] at hx3
      have b1 := (hK.1 (1, 0, 1) (by simp)).2
      have ho19 := (hK.1 (0, 0, 19) (by simp)).2
      dsimp only at b1 ho19
      have k1 : sg w1 c t (o + 1) 1 rf kf := ⟨k36, k38, hones hT (by simp), hwh1 hT (by simp), kr, kk⟩
      refine hq_F.st (s' := (137, _, _, _)) hf276_136 rfl rfl rfl (hs_al g0) ?_
      refine hq_F.st (s' := (138, _, _, _)) hf276_137 rfl rfl rfl (hs_iln g3) ?_
      refine hq_F.st (s' := (139, _, _, _)) hf276_138 rfl rfl rfl rfl ?_
      refine hq_F.st (s' := (140, _, _, _)) hf276_139 rfl rfl rfl rfl ?_
      refine hq_F.call hf276_140 rfl rfl hi_430 (by decide) (by decide) pz_272 (hq_args (mz := hm272) hC1 (As := [.int x3, .int (Int32.ofInt 0), .int (Int32.ofInt 0)]) rfl rfl rfl (Nat.zero_le _) rfl (Nat.le_refl _) rfl (by decide)) (hs_code hC1 k1 (by omega) x3 (Int32.ofInt 0) (Int32.ofInt 0)) (fun r w' q => by rw [q.2.1.1, hC1.1]) ?_
      rintro r w2 ⟨rfl, hC2, hF2, k2⟩
      have hsi := hs_leaf (x := x3) (y := (Int32.ofInt 0)) (z := (Int32.ofInt 0)) hs0 (by omega) (by omega) (by omega) (fun e => by omega)
      refine hq_F.st (s' := (144, _, _, _)) hf276_143 rfl rfl rfl rfl ?_
      exact hq_F.en hf276_144 rfl rfl ⟨hC2, hFM.tr hF2, Or.inr ⟨rfl, c + 1, t, 1, _, kf, k2, hsi, by omega⟩⟩
    · dsimp only at hpc hS
      subst hpc
      obtain ⟨hL, hst, hC1, hT, hK⟩ := hS
      replace hC1 : af_Conf aw_Sh _ := hC1
      dsimp only at hL hst hT hK hC1
      have hstn := af_St.nil hst
      subst hstn
      have g0 := hl_ref hL (i := 0) (k := 61) (by simp)
      obtain ⟨x3, g3, hx3⟩ := hl_int hL (i := 3) (f := (0, [1])) (by simp)
      rw [af_ev_1] at hx3
      have b1 := (hK.1 (1, 2, 2) (by simp)).2
      have ho19 := (hK.1 (0, 0, 19) (by simp)).2
      dsimp only at b1 ho19
      have k1 : sg w1 c t (o + 1) 1 rf kf := ⟨k36, k38, hones hT (by simp), hwh1 hT (by simp), kr, kk⟩
      obtain ⟨x4', g4, hx4'⟩ := hl_int hL (i := 4) (f := (0, [2])) (by simp)
      rw [af_ev_1] at hx4'
      have b2 := (hK.1 (2, 0, 5) (by simp)).2
      dsimp only at b2
      refine hq_F.st (s' := (228, _, _, _)) hf276_227 rfl rfl rfl (hs_al g0) ?_
      refine hq_F.st (s' := (229, _, _, _)) hf276_228 rfl rfl rfl (hs_iln g3) ?_
      refine hq_F.st (s' := (230, _, _, _)) hf276_229 rfl rfl rfl rfl ?_
      refine hq_F.st (s' := (232, _, _, _)) hf276_230 rfl rfl rfl (hs_il g4) ?_
      refine hq_F.call hf276_232 rfl rfl hi_430 (by decide) (by decide) pz_272 (hq_args (mz := hm272) hC1 (As := [.int x3, .int (Int32.ofInt 0), .int x4']) rfl rfl rfl (Nat.zero_le _) rfl (Nat.le_refl _) rfl (by decide)) (hs_code hC1 k1 (by omega) x3 (Int32.ofInt 0) x4') (fun r w' q => by rw [q.2.1.1, hC1.1]) ?_
      rintro r w2 ⟨rfl, hC2, hF2, k2⟩
      have hsi := hs_leaf (x := x3) (y := (Int32.ofInt 0)) (z := x4') hs0 (by omega) (by omega) (by omega) (fun e => by omega)
      refine ax_seg (Φ := hq_F _ _ _) (G := so2_G) (d := d) (mi := hm276) (nl := 0) (ρ0 := fun _ => 0) rfl (fun K hK => (so2_h K hK).mono hd) so2_w so2_l so2_r rfl (hl_Sat0 g0 hC2) (fun s s' h1 h2 => hq_F.to h1 h2) (fun s hfin => hq_fin hfin (fun r w4 hC4 hF4 hP4 => ?_)) (fun s' q ρ' hq => absurd hq (by simp [so2_G]))
      obtain ⟨P4, hPm4, ρ4, -, hst4, -⟩ := hP4
      simp only [so2_G, List.mem_singleton] at hPm4
      subst hPm4
      obtain ⟨x4, rfl, hx4⟩ := hl_res hst4
      rw [af_ev_c] at hx4
      exact ⟨hC4, hFM.tr (hF2.tr (hF4.cov (by decide))), Or.inr ⟨by rw [hn_1e hx4], c + 1, t, 1, _, kf, k2.fr hF4 (by decide), hsi, by omega⟩⟩
    · dsimp only at hpc hS
      subst hpc
      obtain ⟨hL, hst, hC1, hT, hK⟩ := hS
      replace hC1 : af_Conf aw_Sh _ := hC1
      dsimp only at hL hst hT hK hC1
      have hstn := af_St.nil hst
      subst hstn
      have g0 := hl_ref hL (i := 0) (k := 61) (by simp)
      obtain ⟨x3, g3, hx3⟩ := hl_int hL (i := 3) (f := (0, [1])) (by simp)
      rw [af_ev_1] at hx3
      have b1 := (hK.1 (1, 3, 4) (by simp)).2
      have ho19 := (hK.1 (0, 0, 19) (by simp)).2
      dsimp only at b1 ho19
      have k1 : sg w1 c t (o + 1) 1 rf kf := ⟨k36, k38, hones hT (by simp), hwh1 hT (by simp), kr, kk⟩
      obtain ⟨x4', g4, hx4'⟩ := hl_int hL (i := 4) (f := (0, [2])) (by simp)
      rw [af_ev_1] at hx4'
      have b2 := (hK.1 (2, 0, 9) (by simp)).2
      dsimp only at b2
      refine hq_F.st (s' := (228, _, _, _)) hf276_227 rfl rfl rfl (hs_al g0) ?_
      refine hq_F.st (s' := (229, _, _, _)) hf276_228 rfl rfl rfl (hs_iln g3) ?_
      refine hq_F.st (s' := (230, _, _, _)) hf276_229 rfl rfl rfl rfl ?_
      refine hq_F.st (s' := (232, _, _, _)) hf276_230 rfl rfl rfl (hs_il g4) ?_
      refine hq_F.call hf276_232 rfl rfl hi_430 (by decide) (by decide) pz_272 (hq_args (mz := hm272) hC1 (As := [.int x3, .int (Int32.ofInt 0), .int x4']) rfl rfl rfl (Nat.zero_le _) rfl (Nat.le_refl _) rfl (by decide)) (hs_code hC1 k1 (by omega) x3 (Int32.ofInt 0) x4') (fun r w' q => by rw [q.2.1.1, hC1.1]) ?_
      rintro r w2 ⟨rfl, hC2, hF2, k2⟩
      have hsi := hs_leaf (x := x3) (y := (Int32.ofInt 0)) (z := x4') hs0 (by omega) (by omega) (by omega) (fun e => by omega)
      refine ax_seg (Φ := hq_F _ _ _) (G := so2_G) (d := d) (mi := hm276) (nl := 0) (ρ0 := fun _ => 0) rfl (fun K hK => (so2_h K hK).mono hd) so2_w so2_l so2_r rfl (hl_Sat0 g0 hC2) (fun s s' h1 h2 => hq_F.to h1 h2) (fun s hfin => hq_fin hfin (fun r w4 hC4 hF4 hP4 => ?_)) (fun s' q ρ' hq => absurd hq (by simp [so2_G]))
      obtain ⟨P4, hPm4, ρ4, -, hst4, -⟩ := hP4
      simp only [so2_G, List.mem_singleton] at hPm4
      subst hPm4
      obtain ⟨x4, rfl, hx4⟩ := hl_res hst4
      rw [af_ev_c] at hx4
      exact ⟨hC4, hFM.tr (hF2.tr (hF4.cov (by decide))), Or.inr ⟨by rw [hn_1e hx4], c + 1, t, 1, _, kf, k2.fr hF4 (by decide), hsi, by omega⟩⟩
    · dsimp only at hpc hS
      subst hpc
      obtain ⟨hL, hst, hC1, hT, hK⟩ := hS
      replace hC1 : af_Conf aw_Sh _ := hC1
      dsimp only at hL hst hT hK hC1
      have hstn := af_St.nil hst
      subst hstn
      have g0 := hl_ref hL (i := 0) (k := 61) (by simp)
      obtain ⟨x3, g3, hx3⟩ := hl_int hL (i := 3) (f := (0, [1])) (by simp)
      rw [af_ev_1] at hx3
      have b1 := (hK.1 (1, 5, 8) (by simp)).2
      have ho19 := (hK.1 (0, 0, 19) (by simp)).2
      dsimp only at b1 ho19
      have k1 : sg w1 c t (o + 1) 1 rf kf := ⟨k36, k38, hones hT (by simp), hwh1 hT (by simp), kr, kk⟩
      obtain ⟨x4', g4, hx4'⟩ := hl_int hL (i := 4) (f := (0, [2])) (by simp)
      rw [af_ev_1] at hx4'
      have b2 := (hK.1 (2, 60, 62) (by simp)).2
      dsimp only at b2
      obtain ⟨nu, hnu, -⟩ := hq_int hC1 (c := 61) (i := 14) (by decide) rfl
      refine hq_F.st (s' := (298, _, _, _)) hf276_297 rfl rfl rfl (hs_al g0) ?_
      refine hq_F.st (s' := (299, _, _, _)) hf276_298 rfl rfl rfl (hs_iln g3) ?_
      refine hq_F.st (s' := (301, _, _, _)) hf276_299 rfl rfl rfl (hs_il g4) ?_
      refine hq_F.st (s' := (302, _, _, _)) hf276_301 rfl rfl rfl (hs_al g0) ?_
      refine hq_F.st (s' := (305, _, _, _)) hf276_302 rfl rfl rfl (hq_gf hC1 hq_s61 hk_162 hnu) ?_
      refine hq_F.call hf276_305 rfl rfl hi_430 (by decide) (by decide) pz_272 (hq_args (mz := hm272) hC1 (As := [.int x3, .int x4', .int nu]) rfl rfl rfl (Nat.zero_le _) rfl (Nat.le_refl _) rfl (by decide)) (hs_code hC1 k1 (by omega) x3 x4' nu) (fun r w' q => by rw [q.2.1.1, hC1.1]) ?_
      rintro r w2 ⟨rfl, hC2, hF2, k2⟩
      have hsi := hs_leaf (x := x3) (y := x4') (z := nu) hs0 (by omega) (by omega) (by omega) (fun e => by omega)
      refine ax_seg (Φ := hq_F _ _ _) (G := so3_G) (d := d) (mi := hm276) (nl := 0) (ρ0 := fun _ => 0) rfl (fun K hK => (so3_h K hK).mono hd) so3_w so3_l so3_r rfl (hl_Sat0 g0 hC2) (fun s s' h1 h2 => hq_F.to h1 h2) (fun s hfin => hq_fin hfin (fun r w4 hC4 hF4 hP4 => ?_)) (fun s' q ρ' hq => absurd hq (by simp [so3_G]))
      obtain ⟨P4, hPm4, ρ4, -, hst4, -⟩ := hP4
      simp only [so3_G, List.mem_singleton] at hPm4
      subst hPm4
      obtain ⟨x4, rfl, hx4⟩ := hl_res hst4
      rw [af_ev_c] at hx4
      exact ⟨hC4, hFM.tr (hF2.tr (hF4.cov (by decide))), Or.inr ⟨by rw [hn_1e hx4], c + 1, t, 1, _, kf, k2.fr hF4 (by decide), hsi, by omega⟩⟩
def sq_B (w : pi_W) (o t : Nat) (r : Option Value) (w' : pi_W) : Prop := af_Conf aw_Sh w' ∧ af_Fr hs_M w w' ∧ (r = some (.int 0) ∨ (r = some (.int 1) ∧ ∃ c' t' h' rf' kf', sg w' c' t' o h' rf' kf' ∧ si c' t' o h' rf' kf' ∧ ((h' = 0 ∧ t' ≤ t + 1) ∨ (h' = 1 ∧ t' < t))))
theorem hs_behind {d c t o : Nat} {rf kf : Nat → Int32} {w : pi_W} {lv : pi_L} (hd : 7 ≤ d) (hC : af_Conf aw_Sh w) (g : sg w c t o 1 rf kf) (hs : si c t o 1 rf kf) (g0 : pi_get lv 0 = some (.ref 61)) : hq_F (d + 1) hm277 (sq_B w o t) (0, lv, [], w) := by
  obtain ⟨d, rfl⟩ : ∃ e, d = e + 1 := ⟨d - 1, by omega⟩
  refine hq_F.st (s' := (1, _, _, _)) hf277_0 rfl rfl rfl (hs_al g0) ?_
  refine hq_F.call hf277_1 rfl rfl hi_445 (by decide) (by decide) pz_274 (hq_args (mz := hm274) hC (As := []) rfl rfl rfl (Nat.zero_le _) rfl (Nat.le_refl _) rfl (by decide)) (hs_nots t hC g hs rfl) (fun r w' q => by obtain ⟨-, c', t', rf', q1, -⟩ := q; rw [q1.1, hC.1]) ?_
  rintro r w1 ⟨rfl, c1, t1, rf1, hC1, hF1, k1, s1, ht1⟩
  refine ax_seg (Φ := hq_F _ _ _) (G := sb_G) (d := d + 1) (mi := hm277) (nl := 0) (ρ0 := fun _ => 0) rfl (fun K hK => (sb_h K hK).mono (by omega)) sb_w sb_l sb_r rfl (hl_Sat0 g0 hC1) (fun s s' h1 h2 => hq_F.to h1 h2) (fun s hfin => hq_fin hfin (fun r w' hC' hF' hP' => ?_)) (fun s' q ρ' hq hpc hS hag hF => ?_)
  · obtain ⟨P, hPm, -⟩ := hP'
    simp [sb_G] at hPm
  · obtain ⟨pc', lv', st', w2⟩ := s'
    have hFM : af_Fr hs_M w w2 := hF1.tr (hF.cov (by decide))
    have k2 : sg w2 c1 t1 o 1 rf1 kf := k1.fr hF (by decide)
    simp only [sb_G, List.drop, List.mem_cons, List.not_mem_nil, or_false] at hq
    rcases hq with rfl | rfl
    · dsimp only at hpc hS
      subst hpc
      obtain ⟨hL, hst, hC2, hT, hK⟩ := hS
      replace hC2 : af_Conf aw_Sh _ := hC2
      dsimp only at hL hst hT hK hC2
      obtain ⟨xt, vs, rfl, -, hxt, hst1⟩ := st_i hst
      obtain ⟨vs1, rfl, hst2⟩ := st_r hst1
      have hstn := af_St.nil hst2
      subst hstn
      have g0 := hl_ref hL (i := 0) (k := 61) (by simp)
      refine hq_F.call hf277_42 rfl rfl hi_448 (by decide) (by decide) pz_273 (hq_args (mz := hm273) hC2 (As := [.int xt]) rfl rfl rfl (Nat.zero_le _) rfl (Nat.le_refl _) rfl (by decide)) (hs_joins xt t1 hC2 k2 s1 rfl rfl) (fun r w' q => by obtain ⟨-, c', t', rf', q1, -⟩ := q; rw [q1.1.1, hC2.1]) ?_
      rintro r w3 ⟨rfl, c3, t3, rf3, ⟨hC3, hF3, k3, s3, ht3⟩, -⟩
      obtain ⟨u1, u2, u3, u4⟩ := s3
      have hSat : af_Sat aw_Sh (fun _ => (t3 : Int)) sb2_s (45, lv', [], w3) := by
        refine ⟨hl_L0 g0, trivial, hC3, ?_, ?_, (fun e he => by cases he), (fun e he => by cases he)⟩
        · intro e he
          simp only [sb2_s, List.mem_singleton] at he
          subst he
          exact hl_sl (by intro v hv; simp at hv; subst hv; decide) k3.2.1 (by decide) (by rw [af_ev_1, hn_t (by omega)]; omega)
        · intro e he
          simp only [sb2_s, List.mem_singleton] at he
          subst he
          exact ⟨by decide, by dsimp only; omega, by dsimp only; omega⟩
      refine ax_seg (Φ := hq_F _ _ _) (G := sb2_G) (d := d + 1) (mi := hm277) (nl := 0) (ρ0 := fun _ => (t3 : Int)) rfl (fun K hK => (sb2_h K hK).mono (by omega)) sb2_w sb2_l sb2_r rfl hSat (fun s s' h1 h2 => hq_F.to h1 h2) (fun s hfin => hq_fin hfin (fun r w' hC' hF' hP' => ?_)) (fun s' q ρ2 hq hpc hS hag2 hF => ?_)
      · obtain ⟨P, hPm, -⟩ := hP'
        simp [sb2_G] at hPm
      · obtain ⟨pc', lv3, st', w4⟩ := s'
        simp only [sb2_G, List.drop, List.mem_singleton] at hq
        subst hq
        dsimp only at hpc hS
        subst hpc
        obtain ⟨hL, hst, hC4, hT, hK⟩ := hS
        replace hC4 : af_Conf aw_Sh _ := hC4
        dsimp only at hL hst hT hK hC4
        obtain ⟨xv, vs, rfl, -, hxv, hst1⟩ := st_i hst
        obtain ⟨xi, vs1, rfl, -, hxi, hst2⟩ := st_i hst1
        obtain ⟨vs2, rfl, hst3⟩ := st_r hst2
        have hstn := af_St.nil hst3
        subst hstn
        have g0 := hl_ref hL (i := 0) (k := 61) (by simp)
        have hag0 : ρ2 0 = (t3 : Int) := hag2 0 (by decide)
        rw [af_ev_1] at hxv hxi
        have bv := (hK.1 (1, 21, 22) (by simp)).2
        dsimp only at bv
        rw [hag0] at hxi
        have k4 : sg w4 c3 t3 o 1 rf3 kf := k3.fr hF (by decide)
        have hxb : xv = 21 ∨ xv = 22 := by
          have : xv.toInt = 21 ∨ xv.toInt = 22 := by omega
          rcases this with q | q
          · exact Or.inl (Int32.toInt_inj.mp q)
          · exact Or.inr (Int32.toInt_inj.mp q)
        refine hq_F.is hf277_70 hC4 hq_s74 (n := t3) (by omega) (by omega) hq_any (fun w5 hC5 hF5 hv5 => ?_)
        have k5 := k4.k1 hF5 hv5
        refine hq_F.st (s' := (72, _, _, _)) hf277_71 rfl rfl rfl (hs_al g0) ?_
        refine hq_F.st (s' := (73, _, _, _)) hf277_72 rfl rfl rfl rfl ?_
        refine hq_F.st (s' := (76, _, _, _)) hf277_73 rfl rfl rfl (hq_gf hC5 hq_s61 hk_427 k5.2.1) ?_
        refine hq_F.st (s' := (77, _, _, _)) hf277_76 rfl rfl rfl rfl ?_
        refine hq_F.st (s' := (78, _, _, _)) hf277_77 rfl rfl rfl hs_p1 ?_
        refine hq_F.pf hf277_78 hC5 hq_s61 hk_427 (lo := 0) (hi := 45) rfl (by rw [hn_t (by omega)]; omega) rfl rfl rfl (fun w6 hC6 hF6 hv6 => ?_)
        have k6 := k5.t1 hF6 hv6
        refine hq_F.st (s' := (82, _, _, _)) hf277_81 rfl rfl rfl (hs_al g0) ?_
        refine hq_F.st (s' := (83, lv3, [.int (Int32.ofNat 0), .ref 61], w6)) hf277_82 rfl rfl rfl rfl ?_
        refine hq_F.pf hf277_83 hC6 hq_s61 hk_442 (lo := 0) (hi := 1) rfl (by decide) rfl rfl rfl (fun w7 hC7 hF7 hv7 => ?_)
        have k7 := k6.h1 hF7 hv7
        refine ax_seg (Φ := hq_F _ _ _) (G := sb3_G) (d := d + 1) (mi := hm277) (nl := 0) (ρ0 := fun _ => 0) rfl (fun K hK => (sb3_h K hK).mono (by omega)) sb3_w sb3_l sb3_r rfl (hl_Sat0 g0 hC7) (fun s s' h1 h2 => hq_F.to h1 h2) (fun s hfin => hq_fin hfin (fun r w9 hC9 hF9 hP4 => ?_)) (fun s' q ρ' hq => absurd hq (by simp [sb3_G]))
        obtain ⟨P4, hPm4, ρ4, -, hst4, -⟩ := hP4
        simp only [sb3_G, List.mem_singleton] at hPm4
        subst hPm4
        obtain ⟨x4, rfl, hx4⟩ := hl_res hst4
        rw [af_ev_c] at hx4
        refine ⟨hC9, ?_, Or.inr ⟨by rw [hn_1e hx4], c3, t3 + 1, 0, rf3, upd kf t3 xv, k7.fr hF9 (by decide), ?_, Or.inl ⟨rfl, by omega⟩⟩⟩
        · exact hFM.tr (hF3.tr ((hF.cov (by decide)).tr ((hs_F1 hF5 (hs_cov (by omega))).tr ((hs_F1 hF6 (by decide)).tr ((hs_F1 hF7 (by decide)).tr (hF9.cov (by decide)))))))
        · refine ⟨by omega, u2, by omega, ?_⟩
          rw [bn_up, if_pos hxb]
          exact u4
    · dsimp only at hpc hS
      subst hpc
      obtain ⟨hL, hst, hC2, hT, hK⟩ := hS
      replace hC2 : af_Conf aw_Sh _ := hC2
      dsimp only at hL hst hT hK hC2
      have hstn := af_St.nil hst
      subst hstn
      have g0 := hl_ref hL (i := 0) (k := 61) (by simp)
      refine hq_F.st (s' := (93, _, _, _)) hf277_92 rfl rfl rfl (hs_al g0) ?_
      refine hq_F.st (s' := (95, lv', [.int 22, .ref 61], w2)) hf277_93 rfl rfl rfl rfl ?_
      refine hq_F.call hf277_95 rfl rfl hi_448 (by decide) (by decide) pz_273 (hq_args (mz := hm273) hC2 (As := [.int 22]) rfl rfl rfl (Nat.zero_le _) rfl (Nat.le_refl _) rfl (by decide)) (hs_joins 22 t1 hC2 k2 s1 rfl rfl) (fun r w' q => by obtain ⟨-, c', t', rf', q1, -⟩ := q; rw [q1.1.1, hC2.1]) ?_
      rintro r w3 ⟨rfl, c3, t3, rf3, ⟨hC3, hF3, k3, s3, ht3⟩, hnb⟩
      obtain ⟨u1, u2, u3, u4⟩ := s3
      have hSat : af_Sat aw_Sh (fun _ => (t3 : Int)) sb4_s (98, lv', [], w3) := by
        refine ⟨hl_L0 g0, trivial, hC3, ?_, ?_, (fun e he => by cases he), (fun e he => by cases he)⟩
        · intro e he
          simp only [sb4_s, List.mem_singleton] at he
          subst he
          exact hl_sl (by intro v hv; simp at hv; subst hv; decide) k3.2.1 (by decide) (by rw [af_ev_1, hn_t (by omega)]; omega)
        · intro e he
          simp only [sb4_s, List.mem_singleton] at he
          subst he
          exact ⟨by decide, by dsimp only; omega, by dsimp only; omega⟩
      refine ax_seg (Φ := hq_F _ _ _) (G := sb4_G) (d := d + 1) (mi := hm277) (nl := 0) (ρ0 := fun _ => (t3 : Int)) rfl (fun K hK => (sb4_h K hK).mono (by omega)) sb4_w sb4_l sb4_r rfl hSat (fun s s' h1 h2 => hq_F.to h1 h2) (fun s hfin => hq_fin hfin (fun r w' hC' hF' hP' => ?_)) (fun s' q ρ2 hq hpc hS hag2 hF => ?_)
      · obtain ⟨P, hPm, ρ2, -, hst, -⟩ := hP'
        simp only [sb4_G, List.mem_singleton] at hPm
        subst hPm
        obtain ⟨x, rfl, hx⟩ := hl_res hst
        rw [af_ev_c] at hx
        exact ⟨hC', hFM.tr (hF3.tr (hF'.cov (by decide))), Or.inl (by rw [hn_0 hx])⟩
      · obtain ⟨pc', lv3, st', w4⟩ := s'
        simp only [sb4_G, List.drop, List.mem_singleton] at hq
        subst hq
        dsimp only at hpc hS
        subst hpc
        obtain ⟨hL, hst, hC4, hT, hK⟩ := hS
        replace hC4 : af_Conf aw_Sh _ := hC4
        dsimp only at hL hst hT hK hC4
        have hstn := af_St.nil hst
        subst hstn
        have g0 := hl_ref hL (i := 0) (k := 61) (by simp)
        have hag0 : ρ2 0 = (t3 : Int) := hag2 0 (by decide)
        have bv := (hK.1 (0, 1, 45) (by simp)).2
        dsimp only at bv
        rw [hag0] at bv
        obtain ⟨t4, rfl⟩ : ∃ e, t3 = e + 1 := ⟨t3 - 1, by omega⟩
        have k4 : sg w4 c3 (t4 + 1) o 1 rf3 kf := k3.fr hF (by decide)
        refine hq_F.st (s' := (121, _, _, _)) hf277_120 rfl rfl rfl (hs_al g0) ?_
        refine hq_F.st (s' := (122, _, _, _)) hf277_121 rfl rfl rfl rfl ?_
        refine hq_F.st (s' := (125, _, _, _)) hf277_122 rfl rfl rfl (hq_gf hC4 hq_s61 hk_427 k4.2.1) ?_
        refine hq_F.st (s' := (126, _, _, _)) hf277_125 rfl rfl rfl rfl ?_
        refine hq_F.st (s' := (127, _, _, _)) hf277_126 rfl rfl rfl hs_m1 ?_
        refine hq_F.pf hf277_127 hC4 hq_s61 hk_427 (lo := 0) (hi := 45) rfl (by rw [hn_t (by omega)]; omega) rfl rfl rfl (fun w5 hC5 hF5 hv5 => ?_)
        have k5 := k4.t1 hF5 hv5
        obtain ⟨dp, hdp, -⟩ := hq_int hC5 (c := 61) (i := 39) (by decide) rfl
        refine hq_F.st (s' := (131, _, _, _)) hf277_130 rfl rfl rfl (hs_al g0) ?_
        refine hq_F.st (s' := (132, _, _, _)) hf277_131 rfl rfl rfl rfl ?_
        refine hq_F.st (s' := (135, _, _, _)) hf277_132 rfl rfl rfl (hq_gf hC5 hq_s61 hk_433 hdp) ?_
        refine hq_F.st (s' := (136, _, _, _)) hf277_135 rfl rfl rfl rfl ?_
        refine hq_F.st (s' := (137, _, _, _)) hf277_136 rfl rfl rfl rfl ?_
        refine hq_F.pf hf277_137 hC5 hq_s61 hk_433 (lo := -2147483648) (hi := 2147483647) rfl (af_i32 _) rfl rfl rfl (fun w6 hC6 hF6 hv6 => ?_)
        have k6 := k5.fr hF6 (by decide)
        refine ax_seg (Φ := hq_F _ _ _) (G := sb5_G) (d := d + 1) (mi := hm277) (nl := 0) (ρ0 := fun _ => 0) rfl (fun K hK => (sb5_h K hK).mono (by omega)) sb5_w sb5_l sb5_r rfl (hl_Sat0 g0 hC6) (fun s s' h1 h2 => hq_F.to h1 h2) (fun s hfin => hq_fin hfin (fun r w9 hC9 hF9 hP4 => ?_)) (fun s' q ρ' hq => absurd hq (by simp [sb5_G]))
        obtain ⟨P4, hPm4, ρ4, -, hst4, -⟩ := hP4
        simp only [sb5_G, List.mem_singleton] at hPm4
        subst hPm4
        obtain ⟨x4, rfl, hx4⟩ := hl_res hst4
        rw [af_ev_c] at hx4
        refine ⟨hC9, ?_, Or.inr ⟨by rw [hn_1e hx4], c3, t4, 1, rf3, kf, k6.fr hF9 (by decide), ?_, Or.inr ⟨rfl, by omega⟩⟩⟩
        · exact hFM.tr (hF3.tr ((hF.cov (by decide)).tr ((hs_F1 hF5 (by decide)).tr ((hs_F1 hF6 (by decide)).tr (hF9.cov (by decide))))))
        · refine ⟨by omega, u2, by omega, ?_⟩
          rw [u4]
          have hb : bn kf (t4 + 1) = bn kf t4 := by
            rw [bn_s]
            rcases hnb rfl with q | q
            · omega
            · rw [if_neg (by simpa using q)]
              rfl
          rw [hb]
/-! the codes that a row of numbers holds -/
def sv (w : pi_W) (cell off : Nat) : Prop := ∃ (n : Nat) (f : Nat → Int32), n ≤ 45 ∧ af_wloc w cell (off + 230) = some (.int (Int32.ofNat n)) ∧ (∀ j, j < 180 → af_wloc w cell (off + 231 + j) = some (.int (f j))) ∧ ∃ D, rq f n = some D
theorem sv.fr {w w' : pi_W} {cell off : Nat} (h : sv w cell off) (hF : ∀ i, off + 230 ≤ i → i < off + 411 → af_wloc w' cell i = af_wloc w cell i) : sv w' cell off := by
  obtain ⟨n, f, h1, h2, h3, h4⟩ := h
  exact ⟨n, f, h1, (hF _ (by omega) (by omega)).trans h2, fun j hj => (hF _ (by omega) (by omega)).trans (h3 j hj), h4⟩
theorem hq_arr {w : pi_W} (hC : af_Conf aw_Sh w) {a t m : Nat} {S : List (Nat × Int × Int)} (hSh : aw_Sh[a]? = some (.inl (t, m, S))) (ht : t ≠ 2) : ∃ f : Nat → Int32, ∀ j, j < m → af_wloc w a j = some (.int (f j)) := by
  obtain ⟨e, he, hoc⟩ := hC.at hSh
  obtain ⟨fn, rfl, -⟩ := af_okA.int ht hoc
  refine ⟨fn, fun j hj => ?_⟩
  unfold af_wloc
  rw [he]
  simp only [af_cloc, if_pos hj]
def hq_S63 : List (Nat × Int × Int) := match (aw_Sh[63]? : Option af_C) with
  | some (.inl (_, _, S)) => S
  | _ => []
theorem hq_s63 : aw_Sh[63]? = some (.inl (0, 411, hq_S63)) := rfl
def hs_N : af_M := [(61, 0, 2), (61, 3, 45), (63, 230, 411), (65, 0, 135), (74, 0, 45)]
theorem hs_N1 {w w' : pi_W} (h : af_Fr hs_M w w') : af_Fr hs_N w w' := h.cov (by decide)
theorem hs_N63 {w w' : pi_W} {n : Nat} (hF : af_Fr [(63, n, n + 1)] w w') (h1 : 230 ≤ n) (h2 : n < 411) : af_Fr hs_N w w' := hq_fr hF (fun c i hc => by
  obtain ⟨e1, e2⟩ := hq_cov1.mp hc
  unfold af_cov hs_N
  simp only [List.any_cons, List.any_nil, Bool.or_false, Bool.or_eq_true, Bool.and_eq_true, beq_iff_eq, Nat.ble_eq, Nat.blt_eq]
  omega)
def sq_S (w : pi_W) (_r : Option Value) (w' : pi_W) : Prop := af_Conf aw_Sh w' ∧ af_Fr hs_N w w' ∧ (sv w 63 0 → sv w' 63 0)
theorem hs_63 {w w' : pi_W} (h : af_Fr hs_M w w') (i : Nat) : af_wloc w' 63 i = af_wloc w 63 i := hq_cell h (by decide)
theorem hq_sg63 {n : Nat} {x : Int32} (h1 : 231 ≤ n) (h2 : n < 411) (q : Int × Int) (h : af_seg hq_S63 n = some q) : q.1 ≤ x.toInt ∧ x.toInt ≤ q.2 := by
  have e : ∀ k, k < 180 → af_seg hq_S63 (231 + k) = some ((-2147483648), 2147483647) := by decide +kernel
  have e2 := e (n - 231) (by omega)
  rw [show 231 + (n - 231) = n by omega, h] at e2
  cases e2
  exact af_i32 x
/-- the copy of the codes -/
theorem hs_copy {d c t o h : Nat} {rf kf : Nat → Int32} {w0 : pi_W} {D : Nat} (hc : c ≤ 45) (hD : rq rf c = some D) : ∀ (n i : Nat) {w : pi_W} {lv : pi_L}, i + n = 3 * c → af_Conf aw_Sh w → af_Fr hs_N w0 w → sg w c t o h rf kf → af_wloc w 63 230 = some (.int (Int32.ofNat c)) → (∀ j, j < i → af_wloc w 63 (231 + j) = some (.int (rf j))) → pi_get lv 0 = some (.ref 61) → pi_get lv 2 = some (.int (Int32.ofNat i)) → hq_F d hm278 (sq_S w0) (146, lv, [], w) := by
  intro n
  induction n with
  | zero =>
    intro i w lv hn hC hF g hs hj g0 g2
    have ei : i = 3 * c := by omega
    subst ei
    refine hq_F.st (s' := (147, _, _, _)) hf278_146 rfl rfl rfl (hs_iln g2) ?_
    refine hq_F.st (s' := (148, _, _, _)) hf278_147 rfl rfl rfl rfl ?_
    refine hq_F.st (s' := (149, _, _, _)) hf278_148 rfl rfl rfl (hs_al g0) ?_
    refine hq_F.st (s' := (152, _, _, _)) hf278_149 rfl rfl rfl (hq_gf hC hq_s61 hk_424 g.1) ?_
    refine hq_F.st (s' := (153, _, _, _)) hf278_152 rfl rfl rfl hs_m3 ?_
    refine hq_F.st (s' := (178, _, _, _)) hf278_153 rfl rfl rfl (hs_ic (hc_ge (Int.le_refl _)) rfl) ?_
    refine hq_F.st (s' := (179, _, _, _)) hf278_178 rfl rfl rfl (hs_al g0) ?_
    refine hq_F.st (s' := (182, _, _, _)) hf278_179 rfl rfl rfl (hq_gf hC hq_s61 hk_439 g.2.2.1) ?_
    refine hq_F.en hf278_182 rfl (pi_ri _) ⟨hC, hF, fun _ => ?_⟩
    obtain ⟨sf, hsf⟩ := hq_arr hC hq_s63 (by decide)
    refine ⟨c, fun j => sf (231 + j), hc, hs, fun j hj' => by rw [Nat.zero_add]; exact hsf _ (by omega), D, ?_⟩
    rw [← hD]
    refine rq_cg (fun j hj' => ?_)
    have e1 := hsf (231 + j) (by omega)
    rw [hj j hj'] at e1
    injection e1 with e1
    injection e1 with e1
    exact e1.symm
  | succ n ih =>
    intro i w lv hn hC hF g hs hj g0 g2
    refine hq_F.st (s' := (147, _, _, _)) hf278_146 rfl rfl rfl (hs_iln g2) ?_
    refine hq_F.st (s' := (148, _, _, _)) hf278_147 rfl rfl rfl rfl ?_
    refine hq_F.st (s' := (149, _, _, _)) hf278_148 rfl rfl rfl (hs_al g0) ?_
    refine hq_F.st (s' := (152, _, _, _)) hf278_149 rfl rfl rfl (hq_gf hC hq_s61 hk_424 g.1) ?_
    refine hq_F.st (s' := (153, _, _, _)) hf278_152 rfl rfl rfl hs_m3 ?_
    refine hq_F.st (s' := (156, _, _, _)) hf278_153 rfl rfl rfl (hs_icn (t := 178) (hc_gen (by rw [hn_t (by omega), hn_t (by omega)]; omega)) rfl) ?_
    refine hq_F.st (s' := (157, _, _, _)) hf278_156 rfl rfl rfl (hs_al g0) ?_
    refine hq_F.st (s' := (160, _, _, _)) hf278_157 rfl rfl rfl (hq_gf hC hq_s61 hk_33 (hq_ref hC hq_s61 (b := 63) rfl)) ?_
    refine hq_F.st (s' := (163, _, _, _)) hf278_160 rfl rfl rfl rfl ?_
    refine hq_F.st (s' := (164, _, _, _)) hf278_163 rfl rfl rfl (hs_iln g2) ?_
    refine hq_F.st (s' := (165, _, _, _)) hf278_164 rfl rfl rfl hs_a231 ?_
    refine hq_F.st (s' := (166, _, _, _)) hf278_165 rfl rfl rfl (hs_al g0) ?_
    refine hq_F.st (s' := (169, _, _, _)) hf278_166 rfl rfl rfl (hq_gf hC hq_s61 hk_40 (hq_ref hC hq_s61 (b := 65) rfl)) ?_
    refine hq_F.st (s' := (170, _, _, _)) hf278_169 rfl rfl rfl (hs_iln g2) ?_
    refine hq_F.st (s' := (171, _, _, _)) hf278_170 rfl rfl rfl (hq_ia hC hq_s65 (hn_t (by omega)) (g.2.2.2.2.1 i (by omega))) ?_
    refine hq_F.is hf278_171 hC hq_s63 (hn_t (by omega)) (by omega) (hq_sg63 (by omega) (by omega)) (fun w1 hC1 hF1 hv1 => ?_)
    refine hq_F.st (s' := (175, _, _, _)) hf278_172 rfl rfl rfl (hs_inc g2 (by decide)) ?_
    rw [hn_s]
    refine hq_F.st (s' := (146, _, _, _)) hf278_175 rfl rfl rfl rfl ?_
    refine ih (i + 1) (by omega) hC1 (hF.tr (hs_N63 hF1 (by omega) (by omega))) ⟨(hq_one hF1 (Or.inl (by decide))).trans g.1, (hq_one hF1 (Or.inl (by decide))).trans g.2.1, (hq_one hF1 (Or.inl (by decide))).trans g.2.2.1, (hq_one hF1 (Or.inl (by decide))).trans g.2.2.2.1, fun j hj => (hq_one hF1 (Or.inl (by decide))).trans (g.2.2.2.2.1 j hj), fun j hj => (hq_one hF1 (Or.inl (by decide))).trans (g.2.2.2.2.2 j hj)⟩ ((hq_one hF1 (Or.inr (by omega))).trans hs) (fun j hj' => ?_) (pi_get_set_ne g0 (by decide) (fun q => (show ¬ ((1 : Nat) = 2) by decide) q.2)) (pi_get_set _ _ _)
    by_cases e : j = i
    · rw [e]
      exact hv1
    · exact (hq_one hF1 (Or.inr (by omega))).trans (hj j (by omega))
def sc_T : af_T := [((61, 36), (0, [])), ((61, 37), (0, [])), ((61, 38), (0, [])), ((61, 40), (0, []))]
theorem hs_sent {d c t o h m : Nat} {rf kf : Nat → Int32} {w0 w : pi_W} {lv : pi_L} (hd : 9 ≤ d) (hm : 50 * (20 - o) + t + 2 * h < m) (hC : af_Conf aw_Sh w) (hF : af_Fr hs_M w0 w) (g : sg w c t o h rf kf) (hs : si c t o h rf kf) (g0 : pi_get lv 0 = some (.ref 61)) (g1 : pi_get lv 1 = some (.int 1)) : hq_F (d + 1) hm278 (sq_S w0) (48, lv, [], w) := by
  induction m generalizing c t o h rf kf w lv with
  | zero => omega
  | succ m ih =>
    have hs0 := hs
    obtain ⟨s1, s2, s3, s4⟩ := hs
    obtain ⟨d, rfl⟩ : ∃ e, d = e + 1 := ⟨d - 1, by omega⟩
    have hbad : ∀ {w1 : pi_W} {lv1 : pi_L}, af_Conf aw_Sh w1 → af_Fr hs_M w0 w1 → pi_get lv1 0 = some (.ref 61) → hq_F (d + 1 + 1) hm278 (sq_S w0) (125, lv1, [], w1) := by
      intro w1 lv1 hC1 hF1 g0
      refine ax_seg (Φ := hq_F _ _ _) (G := sc3_G) (d := d + 1) (mi := hm278) (nl := 0) (ρ0 := fun _ => 0) rfl (fun K hK => (sc3_h K hK).mono (by omega)) sc3_w sc3_l sc3_r rfl (hl_Sat0 g0 hC1) (fun s s' h1 h2 => hq_F.to h1 h2) (fun s hfin => hq_fin hfin (fun r w4 hC4 hF4 hP4 => ?_)) (fun s' q ρ' hq => absurd hq (by simp [sc3_G]))
      have hF5 : af_Fr hs_M w0 w4 := hF1.tr (hF4.cov (by decide))
      exact ⟨hC4, hs_N1 hF5, fun h => h.fr (fun i _ _ => hs_63 hF5 i)⟩
    refine hq_F.st (s' := (49, _, _, _)) hf278_48 rfl rfl rfl (hs_iln g1) ?_
    refine hq_F.st (s' := (52, _, _, _)) hf278_49 rfl rfl rfl (hs_ifn (t := 132) rfl rfl) ?_
    refine hq_F.st (s' := (53, _, _, _)) hf278_52 rfl rfl rfl (hs_al g0) ?_
    refine hq_F.st (s' := (56, _, _, _)) hf278_53 rfl rfl rfl (hq_gf hC hq_s61 hk_442 g.2.2.2.1) ?_
    have hop : h = 0 → hq_F (d + 1 + 1) hm278 (sq_S w0) (101, lv, [], w) := by
      rintro rfl
      refine hq_F.st (s' := (102, _, _, _)) hf278_101 rfl rfl rfl (hs_al g0) ?_
      refine hq_F.st (s' := (105, _, _, _)) hf278_102 rfl rfl rfl (hq_gf hC hq_s61 hk_442 g.2.2.2.1) ?_
      refine hq_F.st (s' := (118, _, _, _)) hf278_105 rfl rfl rfl (hs_if rfl rfl) ?_
      refine hq_F.st (s' := (119, _, _, _)) hf278_118 rfl rfl rfl (hs_al g0) ?_
      refine hq_F.call hf278_119 rfl rfl hi_454 (by decide) (by decide) pz_276 (hq_args (mz := hm276) hC (As := []) rfl rfl rfl (Nat.zero_le _) rfl (by decide) rfl (by decide)) (hs_operand (d := d) (by omega) hC g hs0 rfl) (fun r w' q => by rw [q.1.1, hC.1]) ?_
      rintro r w1 ⟨hC1, hF1, hr⟩
      rcases hr with rfl | ⟨rfl, c', t', h', rf', kf', k1, k2, k3⟩
      · refine hq_F.st (s' := (125, _, _, _)) hf278_122 rfl rfl rfl (hs_ifn (t := 48) rfl rfl) ?_
        exact hbad hC1 (hF.tr hF1) g0
      · refine hq_F.st (s' := (48, _, _, _)) hf278_122 rfl rfl rfl (hs_if rfl rfl) ?_
        have h3 := k2.2.2.1
        have h4 := k2.2.1
        exact ih (by omega) hC1 (hF.tr hF1) k1 k2 g0 g1
    have hbe : h = 1 → hq_F (d + 1 + 1) hm278 (sq_S w0) (101, lv, [], w) := by
      rintro rfl
      refine hq_F.st (s' := (102, _, _, _)) hf278_101 rfl rfl rfl (hs_al g0) ?_
      refine hq_F.st (s' := (105, _, _, _)) hf278_102 rfl rfl rfl (hq_gf hC hq_s61 hk_442 g.2.2.2.1) ?_
      refine hq_F.st (s' := (108, _, _, _)) hf278_105 rfl rfl rfl (hs_ifn (t := 118) rfl rfl) ?_
      refine hq_F.st (s' := (109, _, _, _)) hf278_108 rfl rfl rfl (hs_al g0) ?_
      refine hq_F.call hf278_109 rfl rfl hi_451 (by decide) (by decide) pz_277 (hq_args (mz := hm277) hC (As := []) rfl rfl rfl (Nat.zero_le _) rfl (by decide) rfl (by decide)) (hs_behind (d := d) (by omega) hC g hs0 rfl) (fun r w' q => by rw [q.1.1, hC.1]) ?_
      rintro r w1 ⟨hC1, hF1, hr⟩
      rcases hr with rfl | ⟨rfl, c', t', h', rf', kf', k1, k2, k3⟩
      · refine hq_F.st (s' := (115, _, _, _)) hf278_112 rfl rfl rfl (hs_ifn (t := 48) rfl rfl) ?_
        refine hq_F.st (s' := (125, _, _, _)) hf278_115 rfl rfl rfl rfl ?_
        exact hbad hC1 (hF.tr hF1) g0
      · refine hq_F.st (s' := (48, _, _, _)) hf278_112 rfl rfl rfl (hs_if rfl rfl) ?_
        exact ih (by omega) hC1 (hF.tr hF1) k1 k2 g0 g1
    have hh : h = 0 ∨ h = 1 := by omega
    rcases hh with rfl | rfl
    · refine hq_F.st (s' := (101, _, _, _)) hf278_56 rfl rfl rfl (hs_if rfl rfl) ?_
      exact hop rfl
    · refine hq_F.st (s' := (59, _, _, _)) hf278_56 rfl rfl rfl (hs_ifn (t := 101) rfl rfl) ?_
      obtain ⟨tk, htk, -⟩ := hq_int hC (c := 61) (i := 11) (by decide) rfl
      refine hq_F.st (s' := (60, _, _, _)) hf278_59 rfl rfl rfl (hs_al g0) ?_
      refine hq_F.st (s' := (63, _, _, _)) hf278_60 rfl rfl rfl (hq_gf hC hq_s61 hk_152 htk) ?_
      by_cases h0 : tk = 0
      · refine hq_F.st (s' := (66, _, _, _)) hf278_63 rfl rfl rfl (hs_ifn (t := 101) (hc_nen h0) rfl) ?_
        refine hq_F.st (s' := (67, _, _, _)) hf278_66 rfl rfl rfl (hs_al g0) ?_
        refine hq_F.call hf278_67 rfl rfl hi_445 (by decide) (by decide) pz_274 (hq_args (mz := hm274) hC (As := []) rfl rfl rfl (Nat.zero_le _) rfl (Nat.le_refl _) rfl (by decide)) (hs_nots (d := d) t hC g hs0 rfl) (fun r w' q => by obtain ⟨-, c', t', rf', q1, -⟩ := q; rw [q1.1, hC.1]) ?_
        rintro r w1 ⟨rfl, c1, t1, rf1, hC1, hF1, k1, u1, ht1⟩
        refine hq_F.st (s' := (71, _, _, _)) hf278_70 rfl rfl rfl (hs_al g0) ?_
        refine hq_F.st (s' := (73, lv, [.int 22, .ref 61], w1)) hf278_71 rfl rfl rfl rfl ?_
        refine hq_F.call hf278_73 rfl rfl hi_448 (by decide) (by decide) pz_273 (hq_args (mz := hm273) hC1 (As := [.int 22]) rfl rfl rfl (Nat.zero_le _) rfl (Nat.le_refl _) rfl (by decide)) (hs_joins (d := d) 22 t1 hC1 k1 u1 rfl rfl) (fun r w' q => by obtain ⟨-, c', t', rf', q1, -⟩ := q; rw [q1.1.1, hC1.1]) ?_
        rintro r w2 ⟨rfl, c2, t2, rf2, ⟨hC2, hF2, k2, u2, ht2⟩, -⟩
        have hF3 : af_Fr hs_M w0 w2 := hF.tr (hF1.tr hF2)
        obtain ⟨v1, v2, v3, v4⟩ := u2
        refine hq_F.st (s' := (77, _, _, _)) hf278_76 rfl rfl rfl (hs_al g0) ?_
        refine hq_F.st (s' := (80, _, _, _)) hf278_77 rfl rfl rfl (hq_gf hC2 hq_s61 hk_427 k2.2.1) ?_
        by_cases ht : t2 = 0
        · subst ht
          refine hq_F.st (s' := (96, _, _, _)) hf278_80 rfl rfl rfl (hs_if rfl rfl) ?_
          refine hq_F.st (s' := (97, lv, [.int 0], w2)) hf278_96 rfl rfl rfl rfl ?_
          refine hq_F.st (s' := (98, pi_set lv 1 (.int 0), [], w2)) hf278_97 rfl rfl rfl rfl ?_
          refine hq_F.st (s' := (48, _, _, _)) hf278_98 rfl rfl rfl rfl ?_
          have g0' : pi_get (pi_set lv 1 (.int 0)) 0 = some (.ref 61) := pi_get_set_ne g0 (by decide) (fun q => (show ¬ ((1 : Nat) = 2) by decide) q.2)
          refine hq_F.st (s' := (49, _, _, _)) hf278_48 rfl rfl rfl (hs_iln (k := 1) (pi_get_set lv 1 (.int 0))) ?_
          refine hq_F.st (s' := (132, _, _, _)) hf278_49 rfl rfl rfl (hs_if rfl rfl) ?_
          refine hq_F.st (s' := (133, _, _, _)) hf278_132 rfl rfl rfl (hs_al g0') ?_
          refine hq_F.st (s' := (136, _, _, _)) hf278_133 rfl rfl rfl (hq_gf hC2 hq_s61 hk_33 (hq_ref hC2 hq_s61 (b := 63) rfl)) ?_
          refine hq_F.st (s' := (139, _, _, _)) hf278_136 rfl rfl rfl rfl ?_
          refine hq_F.st (s' := (140, _, _, _)) hf278_139 rfl rfl rfl (hs_al g0') ?_
          refine hq_F.st (s' := (143, _, _, _)) hf278_140 rfl rfl rfl (hq_gf hC2 hq_s61 hk_424 k2.1) ?_
          refine hq_F.is hf278_143 hC2 hq_s63 (n := 230) (by decide) (by decide) (by
            intro q hq
            have e : af_seg hq_S63 230 = some (0, 45) := by decide
            rw [e] at hq
            cases hq
            rw [hn_t (by omega)]
            constructor <;> dsimp only <;> omega) (fun w3 hC3 hF3' hv3 => ?_)
          refine hq_F.st (s' := (145, _, [.int (Int32.ofNat 0)], w3)) hf278_144 rfl rfl rfl rfl ?_
          refine hq_F.st (s' := (146, pi_set (pi_set lv 1 (.int 0)) 2 (.int (Int32.ofNat 0)), [], w3)) hf278_145 rfl rfl rfl rfl ?_
          refine hs_copy (t := 0) (o := o) (h := 1) (kf := kf) (by omega) v4 (3 * c2) 0 (by omega) hC3 ((hs_N1 hF3).tr (hs_N63 hF3' (by decide) (by decide))) ⟨(hq_one hF3' (Or.inl (by decide))).trans k2.1, (hq_one hF3' (Or.inl (by decide))).trans k2.2.1, (hq_one hF3' (Or.inl (by decide))).trans k2.2.2.1, (hq_one hF3' (Or.inl (by decide))).trans k2.2.2.2.1, fun j hj => (hq_one hF3' (Or.inl (by decide))).trans (k2.2.2.2.2.1 j hj), fun j hj => (hq_one hF3' (Or.inl (by decide))).trans (k2.2.2.2.2.2 j hj)⟩ hv3 (fun j hj => by omega) (pi_get_set_ne g0' (by decide) (fun q => (show ¬ ((1 : Nat) = 2) by decide) q.2)) (pi_get_set _ _ _)
        · obtain ⟨t3, rfl⟩ : ∃ e, t2 = e + 1 := ⟨t2 - 1, by omega⟩
          refine hq_F.st (s' := (83, _, _, _)) hf278_80 rfl rfl rfl (hs_ifn (t := 96) (hc_le0 (by omega)) rfl) ?_
          refine ax_seg (Φ := hq_F _ _ _) (G := sc2_G) (d := d + 1) (mi := hm278) (nl := 0) (ρ0 := fun _ => 0) rfl (fun K hK => (sc2_h K hK).mono (by omega)) sc2_w sc2_l sc2_r rfl (hl_Sat0 g0 hC2) (fun s s' h1 h2 => hq_F.to h1 h2) (fun s hfin => hq_fin hfin (fun r w4 hC4 hF4 hP4 => ?_)) (fun s' q ρ' hq => absurd hq (by simp [sc2_G]))
          have hF5 : af_Fr hs_M w0 w4 := hF3.tr (hF4.cov (by decide))
          exact ⟨hC4, hs_N1 hF5, fun h => h.fr (fun i _ _ => hs_63 hF5 i)⟩
      · refine hq_F.st (s' := (101, _, _, _)) hf278_63 rfl rfl rfl (hs_if (hc_ne h0) rfl) ?_
        exact hbe rfl
