/-! ===== reads on both sides; by program ===== -/
theorem sk_10_115 : pi_look pi_fT 10 115 = some (10, 18, 419) := rfl
theorem sk_11_390 : pi_look pi_fT 11 390 = some (11, 30, 1277) := rfl
theorem sk_11_393 : pi_look pi_fT 11 393 = some (11, 29, 1276) := rfl
theorem si_10_228 : pi_look pi_iT 10 228 = some (2, 153, 2, 886) := rfl
theorem si_10_249 : pi_look pi_iT 10 249 = some (2, 151, 1, 922) := rfl
theorem si_10_264 : pi_look pi_iT 10 264 = some (2, 18, 1, 952) := rfl
theorem si_11_280 : pi_look pi_iT 11 280 = some (2, 206, 1, 1588) := rfl
def sm139 : pi_M := (10, 5, (some .int), false, mc_139)
def sm140 : pi_M := (10, 1, (some .int), false, mc_140)
def sm153 : pi_M := (10, 3, (some .boolean), false, mc_153)
def sm18 : pi_M := (2, 4, (some .int), false, mc_18)
def sm206 : pi_M := (11, 4, (some .int), false, mc_206)
def sm259 : pi_M := (11, 7, (some .int), false, mc_259)
def sm260 : pi_M := (11, 1, (some .int), false, mc_260)
set_option maxRecDepth 100000 in
theorem sz_139 : pi_mt[139]? = some (mn_139, prog_1_method_31_code, (10, 5, (some .int), false, mc_139)) := rfl
set_option maxRecDepth 100000 in
theorem sz_140 : pi_mt[140]? = some (mn_140, prog_1_method_32_code, (10, 1, (some .int), false, mc_140)) := rfl
set_option maxRecDepth 100000 in
theorem sz_153 : pi_mt[153]? = some (mn_153, prog_1_method_45_code, (10, 3, (some .boolean), false, mc_153)) := rfl
set_option maxRecDepth 100000 in
theorem sz_18 : pi_mt[18]? = some (mn_18, prog_4_method_10_code, (2, 4, (some .int), false, mc_18)) := rfl
set_option maxRecDepth 100000 in
theorem sz_206 : pi_mt[206]? = some (mn_206, prog_13_method_46_code, (11, 4, (some .int), false, mc_206)) := rfl
set_option maxRecDepth 100000 in
theorem sz_259 : pi_mt[259]? = some (mn_259, prog_13_method_99_code, (11, 7, (some .int), false, mc_259)) := rfl
set_option maxRecDepth 100000 in
theorem sz_260 : pi_mt[260]? = some (mn_260, prog_13_method_100_code, (11, 1, (some .int), false, mc_260)) := rfl
theorem hj139_0 : pi_fetch mc_139 0 = some (.aload_n 0, 1) := rfl
theorem hj139_1 : pi_fetch mc_139 1 = some (.iconst 2, 1) := rfl
theorem hj139_2 : pi_fetch mc_139 2 = some (.iload_n 1, 1) := rfl
theorem hj139_3 : pi_fetch mc_139 3 = some (.invokevirtual 228, 3) := rfl
theorem hj139_6 : pi_fetch mc_139 6 = some (.ifCond .ne 5, 3) := rfl
theorem hj139_9 : pi_fetch mc_139 9 = some (.iconst (-1), 1) := rfl
theorem hj139_10 : pi_fetch mc_139 10 = some (.ireturn, 1) := rfl
theorem hj139_11 : pi_fetch mc_139 11 = some (.iconst 0, 1) := rfl
theorem hj139_12 : pi_fetch mc_139 12 = some (.istore_n 2, 1) := rfl
theorem hj139_13 : pi_fetch mc_139 13 = some (.iconst 1, 1) := rfl
theorem hj139_14 : pi_fetch mc_139 14 = some (.aload_n 0, 1) := rfl
theorem hj139_15 : pi_fetch mc_139 15 = some (.iconst 3, 1) := rfl
theorem hj139_16 : pi_fetch mc_139 16 = some (.invokevirtual 249, 3) := rfl
theorem hj139_19 : pi_fetch mc_139 19 = some (.ishl, 1) := rfl
theorem hj139_20 : pi_fetch mc_139 20 = some (.iconst 1, 1) := rfl
theorem hj139_21 : pi_fetch mc_139 21 = some (.isub, 1) := rfl
theorem hj139_22 : pi_fetch mc_139 22 = some (.istore_n 3, 1) := rfl
theorem hj139_23 : pi_fetch mc_139 23 = some (.iconst 0, 1) := rfl
theorem hj139_24 : pi_fetch mc_139 24 = some (.istore 4, 2) := rfl
theorem hj139_26 : pi_fetch mc_139 26 = some (.iload 4, 2) := rfl
theorem hj139_28 : pi_fetch mc_139 28 = some (.iconst 1, 1) := rfl
theorem hj139_29 : pi_fetch mc_139 29 = some (.aload_n 0, 1) := rfl
theorem hj139_30 : pi_fetch mc_139 30 = some (.iconst 3, 1) := rfl
theorem hj139_31 : pi_fetch mc_139 31 = some (.invokevirtual 249, 3) := rfl
theorem hj139_34 : pi_fetch mc_139 34 = some (.ishl, 1) := rfl
theorem hj139_35 : pi_fetch mc_139 35 = some (.if_icmp .ge 30, 3) := rfl
theorem hj139_38 : pi_fetch mc_139 38 = some (.aload_n 0, 1) := rfl
theorem hj139_39 : pi_fetch mc_139 39 = some (.getfield 19, 3) := rfl
theorem hj139_42 : pi_fetch mc_139 42 = some (.iload 4, 2) := rfl
theorem hj139_44 : pi_fetch mc_139 44 = some (.invokevirtual 264, 3) := rfl
theorem hj139_47 : pi_fetch mc_139 47 = some (.iload_n 1, 1) := rfl
theorem hj139_48 : pi_fetch mc_139 48 = some (.if_icmp .ne 11, 3) := rfl
theorem hj139_51 : pi_fetch mc_139 51 = some (.iinc 2 1, 3) := rfl
theorem hj139_54 : pi_fetch mc_139 54 = some (.iload_n 3, 1) := rfl
theorem hj139_55 : pi_fetch mc_139 55 = some (.iload 4, 2) := rfl
theorem hj139_57 : pi_fetch mc_139 57 = some (.iand, 1) := rfl
theorem hj139_58 : pi_fetch mc_139 58 = some (.istore_n 3, 1) := rfl
theorem hj139_59 : pi_fetch mc_139 59 = some (.iinc 4 1, 3) := rfl
theorem hj139_62 : pi_fetch mc_139 62 = some (.goto (-36), 3) := rfl
theorem hj139_65 : pi_fetch mc_139 65 = some (.iload_n 2, 1) := rfl
theorem hj139_66 : pi_fetch mc_139 66 = some (.ifCond .le 8, 3) := rfl
theorem hj139_69 : pi_fetch mc_139 69 = some (.aload_n 0, 1) := rfl
theorem hj139_70 : pi_fetch mc_139 70 = some (.iload_n 3, 1) := rfl
theorem hj139_71 : pi_fetch mc_139 71 = some (.putfield 115, 3) := rfl
theorem hj139_74 : pi_fetch mc_139 74 = some (.iload_n 2, 1) := rfl
theorem hj139_75 : pi_fetch mc_139 75 = some (.ireturn, 1) := rfl
theorem hj153_0 : pi_fetch mc_153 0 = some (.iload_n 2, 1) := rfl
theorem hj153_1 : pi_fetch mc_153 1 = some (.ifCond .lt 24, 3) := rfl
theorem hj153_4 : pi_fetch mc_153 4 = some (.iload_n 2, 1) := rfl
theorem hj153_5 : pi_fetch mc_153 5 = some (.iconst 1, 1) := rfl
theorem hj153_6 : pi_fetch mc_153 6 = some (.aload_n 0, 1) := rfl
theorem hj153_7 : pi_fetch mc_153 7 = some (.getfield 19, 3) := rfl
theorem hj153_10 : pi_fetch mc_153 10 = some (.getfield 37, 3) := rfl
theorem hj153_13 : pi_fetch mc_153 13 = some (.iload_n 1, 1) := rfl
theorem hj153_14 : pi_fetch mc_153 14 = some (.invokestatic 152, 3) := rfl
theorem hj153_17 : pi_fetch mc_153 17 = some (.ishl, 1) := rfl
theorem hj153_18 : pi_fetch mc_153 18 = some (.if_icmp .ge 7, 3) := rfl
theorem hj153_21 : pi_fetch mc_153 21 = some (.iconst 1, 1) := rfl
theorem hj153_22 : pi_fetch mc_153 22 = some (.goto 4, 3) := rfl
theorem hj153_25 : pi_fetch mc_153 25 = some (.iconst 0, 1) := rfl
theorem hj153_26 : pi_fetch mc_153 26 = some (.ireturn, 1) := rfl
theorem hj18_0 : pi_fetch mc_18 0 = some (.iconst 0, 1) := rfl
theorem hj18_1 : pi_fetch mc_18 1 = some (.istore_n 2, 1) := rfl
theorem hj18_2 : pi_fetch mc_18 2 = some (.iconst 0, 1) := rfl
theorem hj18_3 : pi_fetch mc_18 3 = some (.istore_n 3, 1) := rfl
theorem hj18_4 : pi_fetch mc_18 4 = some (.iload_n 3, 1) := rfl
theorem hj18_5 : pi_fetch mc_18 5 = some (.aload_n 0, 1) := rfl
theorem hj18_6 : pi_fetch mc_18 6 = some (.getfield 11, 3) := rfl
theorem hj18_9 : pi_fetch mc_18 9 = some (.iconst 3, 1) := rfl
theorem hj18_10 : pi_fetch mc_18 10 = some (.invokestatic 35, 3) := rfl
theorem hj18_13 : pi_fetch mc_18 13 = some (.if_icmp .ge 49, 3) := rfl
theorem hj18_16 : pi_fetch mc_18 16 = some (.iload_n 1, 1) := rfl
theorem hj18_17 : pi_fetch mc_18 17 = some (.iload_n 3, 1) := rfl
theorem hj18_18 : pi_fetch mc_18 18 = some (.ishr, 1) := rfl
theorem hj18_19 : pi_fetch mc_18 19 = some (.iconst 1, 1) := rfl
theorem hj18_20 : pi_fetch mc_18 20 = some (.iand, 1) := rfl
theorem hj18_21 : pi_fetch mc_18 21 = some (.iconst 1, 1) := rfl
theorem hj18_22 : pi_fetch mc_18 22 = some (.if_icmp .ne 34, 3) := rfl
theorem hj18_25 : pi_fetch mc_18 25 = some (.aload_n 0, 1) := rfl
theorem hj18_26 : pi_fetch mc_18 26 = some (.getfield 11, 3) := rfl
theorem hj18_29 : pi_fetch mc_18 29 = some (.bipush 38, 2) := rfl
theorem hj18_31 : pi_fetch mc_18 31 = some (.iload_n 3, 1) := rfl
theorem hj18_32 : pi_fetch mc_18 32 = some (.iadd, 1) := rfl
theorem hj18_33 : pi_fetch mc_18 33 = some (.invokestatic 35, 3) := rfl
theorem hj18_36 : pi_fetch mc_18 36 = some (.iconst (-1), 1) := rfl
theorem hj18_37 : pi_fetch mc_18 37 = some (.if_icmp .eq 5, 3) := rfl
theorem hj18_40 : pi_fetch mc_18 40 = some (.iconst (-1), 1) := rfl
theorem hj18_41 : pi_fetch mc_18 41 = some (.ireturn, 1) := rfl
theorem hj18_42 : pi_fetch mc_18 42 = some (.iload_n 2, 1) := rfl
theorem hj18_43 : pi_fetch mc_18 43 = some (.aload_n 0, 1) := rfl
theorem hj18_44 : pi_fetch mc_18 44 = some (.getfield 11, 3) := rfl
theorem hj18_47 : pi_fetch mc_18 47 = some (.bipush 32, 2) := rfl
theorem hj18_49 : pi_fetch mc_18 49 = some (.iload_n 3, 1) := rfl
theorem hj18_50 : pi_fetch mc_18 50 = some (.iadd, 1) := rfl
theorem hj18_51 : pi_fetch mc_18 51 = some (.invokestatic 35, 3) := rfl
theorem hj18_54 : pi_fetch mc_18 54 = some (.ior, 1) := rfl
theorem hj18_55 : pi_fetch mc_18 55 = some (.istore_n 2, 1) := rfl
theorem hj18_56 : pi_fetch mc_18 56 = some (.iinc 3 1, 3) := rfl
theorem hj18_59 : pi_fetch mc_18 59 = some (.goto (-55), 3) := rfl
theorem hj18_62 : pi_fetch mc_18 62 = some (.iload_n 2, 1) := rfl
theorem hj18_63 : pi_fetch mc_18 63 = some (.ireturn, 1) := rfl
theorem hj259_0 : pi_fetch mc_259 0 = some (.aload_n 0, 1) := rfl
theorem hj259_1 : pi_fetch mc_259 1 = some (.iconst 0, 1) := rfl
theorem hj259_2 : pi_fetch mc_259 2 = some (.putfield 1, 3) := rfl
theorem hj259_5 : pi_fetch mc_259 5 = some (.iload_n 1, 1) := rfl
theorem hj259_6 : pi_fetch mc_259 6 = some (.ifCond .lt 15, 3) := rfl
theorem hj259_9 : pi_fetch mc_259 9 = some (.iload_n 1, 1) := rfl
theorem hj259_10 : pi_fetch mc_259 10 = some (.iconst 1, 1) := rfl
theorem hj259_11 : pi_fetch mc_259 11 = some (.aload_n 0, 1) := rfl
theorem hj259_12 : pi_fetch mc_259 12 = some (.getfield 33, 3) := rfl
theorem hj259_15 : pi_fetch mc_259 15 = some (.iconst 2, 1) := rfl
theorem hj259_16 : pi_fetch mc_259 16 = some (.iaload, 1) := rfl
theorem hj259_17 : pi_fetch mc_259 17 = some (.ishl, 1) := rfl
theorem hj259_18 : pi_fetch mc_259 18 = some (.if_icmp .lt 5, 3) := rfl
theorem hj259_21 : pi_fetch mc_259 21 = some (.iconst (-1), 1) := rfl
theorem hj259_22 : pi_fetch mc_259 22 = some (.ireturn, 1) := rfl
theorem hj259_23 : pi_fetch mc_259 23 = some (.iconst 0, 1) := rfl
theorem hj259_24 : pi_fetch mc_259 24 = some (.istore_n 2, 1) := rfl
theorem hj259_25 : pi_fetch mc_259 25 = some (.bipush 63, 2) := rfl
theorem hj259_27 : pi_fetch mc_259 27 = some (.istore_n 3, 1) := rfl
theorem hj259_28 : pi_fetch mc_259 28 = some (.iconst 0, 1) := rfl
theorem hj259_29 : pi_fetch mc_259 29 = some (.istore 4, 2) := rfl
theorem hj259_31 : pi_fetch mc_259 31 = some (.iload 4, 2) := rfl
theorem hj259_33 : pi_fetch mc_259 33 = some (.iconst 1, 1) := rfl
theorem hj259_34 : pi_fetch mc_259 34 = some (.aload_n 0, 1) := rfl
theorem hj259_35 : pi_fetch mc_259 35 = some (.getfield 33, 3) := rfl
theorem hj259_38 : pi_fetch mc_259 38 = some (.iconst 3, 1) := rfl
theorem hj259_39 : pi_fetch mc_259 39 = some (.iaload, 1) := rfl
theorem hj259_40 : pi_fetch mc_259 40 = some (.ishl, 1) := rfl
theorem hj259_41 : pi_fetch mc_259 41 = some (.if_icmp .ge 97, 3) := rfl
theorem hj259_44 : pi_fetch mc_259 44 = some (.aload_n 0, 1) := rfl
theorem hj259_45 : pi_fetch mc_259 45 = some (.iload 4, 2) := rfl
theorem hj259_47 : pi_fetch mc_259 47 = some (.invokevirtual 280, 3) := rfl
theorem hj259_50 : pi_fetch mc_259 50 = some (.iload_n 1, 1) := rfl
theorem hj259_51 : pi_fetch mc_259 51 = some (.if_icmp .ne 7, 3) := rfl
theorem hj259_54 : pi_fetch mc_259 54 = some (.iconst 1, 1) := rfl
theorem hj259_55 : pi_fetch mc_259 55 = some (.goto 4, 3) := rfl
theorem hj259_58 : pi_fetch mc_259 58 = some (.iconst 0, 1) := rfl
theorem hj259_59 : pi_fetch mc_259 59 = some (.istore 5, 2) := rfl
theorem hj259_61 : pi_fetch mc_259 61 = some (.iconst 0, 1) := rfl
theorem hj259_62 : pi_fetch mc_259 62 = some (.istore 6, 2) := rfl
theorem hj259_64 : pi_fetch mc_259 64 = some (.iload 6, 2) := rfl
theorem hj259_66 : pi_fetch mc_259 66 = some (.aload_n 0, 1) := rfl
theorem hj259_67 : pi_fetch mc_259 67 = some (.getfield 33, 3) := rfl
theorem hj259_70 : pi_fetch mc_259 70 = some (.iconst 3, 1) := rfl
theorem hj259_71 : pi_fetch mc_259 71 = some (.iaload, 1) := rfl
theorem hj259_72 : pi_fetch mc_259 72 = some (.if_icmp .ge 44, 3) := rfl
theorem hj259_75 : pi_fetch mc_259 75 = some (.iload 5, 2) := rfl
theorem hj259_77 : pi_fetch mc_259 77 = some (.ifCond .eq 30, 3) := rfl
theorem hj259_80 : pi_fetch mc_259 80 = some (.iload 4, 2) := rfl
theorem hj259_82 : pi_fetch mc_259 82 = some (.iload 6, 2) := rfl
theorem hj259_84 : pi_fetch mc_259 84 = some (.invokestatic 229, 3) := rfl
theorem hj259_87 : pi_fetch mc_259 87 = some (.ifCond .eq 16, 3) := rfl
theorem hj259_90 : pi_fetch mc_259 90 = some (.aload_n 0, 1) := rfl
theorem hj259_91 : pi_fetch mc_259 91 = some (.getfield 33, 3) := rfl
theorem hj259_94 : pi_fetch mc_259 94 = some (.bipush 27, 2) := rfl
theorem hj259_96 : pi_fetch mc_259 96 = some (.iload 6, 2) := rfl
theorem hj259_98 : pi_fetch mc_259 98 = some (.iadd, 1) := rfl
theorem hj259_99 : pi_fetch mc_259 99 = some (.iaload, 1) := rfl
theorem hj259_100 : pi_fetch mc_259 100 = some (.ifCond .ne 7, 3) := rfl
theorem hj259_103 : pi_fetch mc_259 103 = some (.iconst 1, 1) := rfl
theorem hj259_104 : pi_fetch mc_259 104 = some (.goto 4, 3) := rfl
theorem hj259_107 : pi_fetch mc_259 107 = some (.iconst 0, 1) := rfl
theorem hj259_108 : pi_fetch mc_259 108 = some (.istore 5, 2) := rfl
theorem hj259_110 : pi_fetch mc_259 110 = some (.iinc 6 1, 3) := rfl
theorem hj259_113 : pi_fetch mc_259 113 = some (.goto (-49), 3) := rfl
theorem hj259_116 : pi_fetch mc_259 116 = some (.iload 5, 2) := rfl
theorem hj259_118 : pi_fetch mc_259 118 = some (.ifCond .ne 6, 3) := rfl
theorem hj259_121 : pi_fetch mc_259 121 = some (.goto 11, 3) := rfl
theorem hj259_124 : pi_fetch mc_259 124 = some (.iinc 2 1, 3) := rfl
theorem hj259_127 : pi_fetch mc_259 127 = some (.iload_n 3, 1) := rfl
theorem hj259_128 : pi_fetch mc_259 128 = some (.iload 4, 2) := rfl
theorem hj259_130 : pi_fetch mc_259 130 = some (.iand, 1) := rfl
theorem hj259_131 : pi_fetch mc_259 131 = some (.istore_n 3, 1) := rfl
theorem hj259_132 : pi_fetch mc_259 132 = some (.iinc 4 1, 3) := rfl
theorem hj259_135 : pi_fetch mc_259 135 = some (.goto (-104), 3) := rfl
theorem hj259_138 : pi_fetch mc_259 138 = some (.iload_n 2, 1) := rfl
theorem hj259_139 : pi_fetch mc_259 139 = some (.ifCond .le 13, 3) := rfl
theorem hj259_142 : pi_fetch mc_259 142 = some (.aload_n 0, 1) := rfl
theorem hj259_143 : pi_fetch mc_259 143 = some (.iconst 1, 1) := rfl
theorem hj259_144 : pi_fetch mc_259 144 = some (.putfield 390, 3) := rfl
theorem hj259_147 : pi_fetch mc_259 147 = some (.aload_n 0, 1) := rfl
theorem hj259_148 : pi_fetch mc_259 148 = some (.iload_n 3, 1) := rfl
theorem hj259_149 : pi_fetch mc_259 149 = some (.putfield 393, 3) := rfl
theorem hj259_152 : pi_fetch mc_259 152 = some (.iload_n 2, 1) := rfl
theorem hj259_153 : pi_fetch mc_259 153 = some (.ireturn, 1) := rfl
theorem hj206_0 : pi_fetch mc_206 0 = some (.iconst 0, 1) := rfl
theorem hj206_1 : pi_fetch mc_206 1 = some (.istore_n 2, 1) := rfl
theorem hj206_2 : pi_fetch mc_206 2 = some (.iconst 0, 1) := rfl
theorem hj206_3 : pi_fetch mc_206 3 = some (.istore_n 3, 1) := rfl
theorem hj206_4 : pi_fetch mc_206 4 = some (.iload_n 3, 1) := rfl
theorem hj206_5 : pi_fetch mc_206 5 = some (.aload_n 0, 1) := rfl
theorem hj206_6 : pi_fetch mc_206 6 = some (.getfield 33, 3) := rfl
theorem hj206_9 : pi_fetch mc_206 9 = some (.iconst 3, 1) := rfl
theorem hj206_10 : pi_fetch mc_206 10 = some (.iaload, 1) := rfl
theorem hj206_11 : pi_fetch mc_206 11 = some (.if_icmp .ge 33, 3) := rfl
theorem hj206_14 : pi_fetch mc_206 14 = some (.iload_n 2, 1) := rfl
theorem hj206_15 : pi_fetch mc_206 15 = some (.iload_n 1, 1) := rfl
theorem hj206_16 : pi_fetch mc_206 16 = some (.iload_n 3, 1) := rfl
theorem hj206_17 : pi_fetch mc_206 17 = some (.invokestatic 229, 3) := rfl
theorem hj206_20 : pi_fetch mc_206 20 = some (.ifCond .eq 15, 3) := rfl
theorem hj206_23 : pi_fetch mc_206 23 = some (.aload_n 0, 1) := rfl
theorem hj206_24 : pi_fetch mc_206 24 = some (.getfield 33, 3) := rfl
theorem hj206_27 : pi_fetch mc_206 27 = some (.bipush 21, 2) := rfl
theorem hj206_29 : pi_fetch mc_206 29 = some (.iload_n 3, 1) := rfl
theorem hj206_30 : pi_fetch mc_206 30 = some (.iadd, 1) := rfl
theorem hj206_31 : pi_fetch mc_206 31 = some (.iaload, 1) := rfl
theorem hj206_32 : pi_fetch mc_206 32 = some (.goto 4, 3) := rfl
theorem hj206_35 : pi_fetch mc_206 35 = some (.iconst 0, 1) := rfl
theorem hj206_36 : pi_fetch mc_206 36 = some (.ior, 1) := rfl
theorem hj206_37 : pi_fetch mc_206 37 = some (.istore_n 2, 1) := rfl
theorem hj206_38 : pi_fetch mc_206 38 = some (.iinc 3 1, 3) := rfl
theorem hj206_41 : pi_fetch mc_206 41 = some (.goto (-37), 3) := rfl
theorem hj206_44 : pi_fetch mc_206 44 = some (.iload_n 2, 1) := rfl
theorem hj206_45 : pi_fetch mc_206 45 = some (.ireturn, 1) := rfl
theorem hj140_0 : pi_fetch mc_140 0 = some (.aload_n 0, 1) := rfl
theorem hj140_1 : pi_fetch mc_140 1 = some (.getfield 115, 3) := rfl
theorem hj140_4 : pi_fetch mc_140 4 = some (.ireturn, 1) := rfl
theorem hj260_0 : pi_fetch mc_260 0 = some (.aload_n 0, 1) := rfl
theorem hj260_1 : pi_fetch mc_260 1 = some (.iconst 0, 1) := rfl
theorem hj260_2 : pi_fetch mc_260 2 = some (.putfield 1, 3) := rfl
theorem hj260_5 : pi_fetch mc_260 5 = some (.aload_n 0, 1) := rfl
theorem hj260_6 : pi_fetch mc_260 6 = some (.getfield 390, 3) := rfl
theorem hj260_9 : pi_fetch mc_260 9 = some (.ifCond .eq 10, 3) := rfl
theorem hj260_12 : pi_fetch mc_260 12 = some (.aload_n 0, 1) := rfl
theorem hj260_13 : pi_fetch mc_260 13 = some (.getfield 393, 3) := rfl
theorem hj260_16 : pi_fetch mc_260 16 = some (.goto 4, 3) := rfl
theorem hj260_19 : pi_fetch mc_260 19 = some (.iconst (-1), 1) := rfl
theorem hj260_20 : pi_fetch mc_260 20 = some (.ireturn, 1) := rfl
/-- DEEDS that LAWS forbid together, as the class has it, and as the model has it -/
def fbc (A : ld_A) (set : Int32) : Nat → Nat → Int32 → Int32
  | 0, _, a => a
  | n + 1, l, a => if ls_bit set l = true then (if A 4 l = 0 then fbc A set n (l + 1) (a ||| A 3 l) else Int32.ofInt (-1)) else fbc A set n (l + 1) a
def fbm (A : ld_A) (set : Int32) : Nat → Nat → Int32 → Int32
  | 0, _, a => a
  | n + 1, l, a => fbm A set n (l + 1) (a ||| (if ls_bit set l = true then A 3 l else Int32.ofInt 0))
def rpk (A : ld_A) (set : Int32) : Nat → Nat → Bool → Bool
  | 0, _, b => b
  | n + 1, l, b => rpk A set n (l + 1) (b && (!ls_bit set l || decide (A 4 l = 0)))
theorem rpk_f (A : ld_A) (set : Int32) : ∀ (n l : Nat), rpk A set n l false = false
  | 0, _ => rfl
  | n + 1, l => by rw [rpk, Bool.false_and]; exact rpk_f A set n (l + 1)
theorem fb_eq {A : ld_A} {set x : Int32} (hx : ¬ x = Int32.ofInt (-1)) : ∀ (n l : Nat) (a : Int32), decide (fbc A set n l a = x) = rpk A set n l (decide (fbm A set n l a = x))
  | 0, _, _ => rfl
  | n + 1, l, a => by
    rw [fbc, fbm, rpk]
    cases hb : ls_bit set l with
    | true =>
      rw [if_pos rfl, if_pos rfl]
      by_cases h4 : A 4 l = 0
      · rw [if_pos h4, decide_eq_true h4, Bool.or_true, Bool.and_true]
        exact fb_eq hx n (l + 1) _
      · rw [if_neg h4, decide_eq_false h4, Bool.not_true, Bool.or_false, Bool.and_false, rpk_f]
        exact decide_eq_false (fun q => hx q.symm)
    | false =>
      rw [if_neg (by decide), if_neg (by decide), Bool.not_false, Bool.true_or, Bool.and_true, show a ||| Int32.ofInt 0 = a from Int32.or_zero]
      exact fb_eq hx n (l + 1) a
/-- how many sets, and what is in each -/
def rd_go (hit : Nat → Bool) : Nat → Nat → Nat → Int32 → Nat × Int32
  | 0, _, m, a => (m, a)
  | n + 1, s, m, a => if hit s = true then rd_go hit n (s + 1) (m + 1) (a &&& Int32.ofNat s) else rd_go hit n (s + 1) m a
theorem rd_m (hit : Nat → Bool) : ∀ (n s m : Nat) (a : Int32), m ≤ (rd_go hit n s m a).1 ∧ (rd_go hit n s m a).1 ≤ m + n
  | 0, _, _, _ => ⟨Nat.le_refl _, Nat.le_refl _⟩
  | n + 1, s, m, a => by
    rw [rd_go]
    split
    · have := rd_m hit n (s + 1) (m + 1) (a &&& Int32.ofNat s)
      omega
    · have := rd_m hit n (s + 1) m a
      omega
theorem rd_c {hit hit2 : Nat → Bool} {a b : Int32} {p : Nat} (hh : ∀ s, s < p → hit s = hit2 s) (hab : ∀ s, s < p → a &&& Int32.ofNat s = b &&& Int32.ofNat s) : ∀ (n s m : Nat) (x y : Int32), s + n = p → (x = y ∨ (m = 0 ∧ x = a ∧ y = b)) → (rd_go hit n s m x).1 = (rd_go hit2 n s m y).1 ∧ (0 < (rd_go hit n s m x).1 → (rd_go hit n s m x).2 = (rd_go hit2 n s m y).2)
  | 0, s, m, x, y, _, h => ⟨rfl, fun hm => by
      rcases h with rfl | ⟨rfl, _⟩
      · rfl
      · exact absurd hm (Nat.lt_irrefl 0)⟩
  | n + 1, s, m, x, y, hs, h => by
    rw [rd_go, rd_go, ← hh s (by omega)]
    split
    · refine rd_c hh hab n (s + 1) (m + 1) _ _ (by omega) (Or.inl ?_)
      rcases h with rfl | ⟨_, rfl, rfl⟩
      · rfl
      · exact hab s (by omega)
    · exact rd_c hh hab n (s + 1) m x y (by omega) h
theorem sh1 : ∀ n, n < 7 → (Int32.ofInt 1 <<< (Int32.ofNat n &&& 31)) = Int32.ofNat (2 ^ n) := by decide
theorem sh64 : ∀ n, n < 7 → 2 ^ n ≤ 64 := by decide
theorem sh63 : ∀ n, n < 7 → ∀ s, s < 2 ^ n → (Int32.ofNat (2 ^ n) - Int32.ofInt 1) &&& Int32.ofNat s = ((Int8.ofInt 63).toInt32) &&& Int32.ofNat s := by decide +kernel
abbrev rd_in (n2 : Nat) (x : Int32) : Prop := 0 ≤ x.toInt ∧ x.toInt < ((2 ^ n2 : Nat) : Int)
def rdC (A : ld_A) (n3 : Nat) (x : Int32) : Nat × Int32 := rd_go (fun s => decide (fbc A (Int32.ofNat s) n3 0 (Int32.ofInt 0) = x)) (2 ^ n3) 0 0 (Int32.ofNat (2 ^ n3) - Int32.ofInt 1)
def rdM (A : ld_A) (n3 : Nat) (x : Int32) : Nat × Int32 := rd_go (fun s => rpk A (Int32.ofNat s) n3 0 (decide (fbm A (Int32.ofNat s) n3 0 (Int32.ofInt 0) = x))) (2 ^ n3) 0 0 ((Int8.ofInt 63).toInt32)
theorem rd_eq {A : ld_A} {n3 : Nat} {x : Int32} (h3 : n3 < 7) (hx : 0 ≤ x.toInt) : (rdC A n3 x).1 = (rdM A n3 x).1 ∧ (0 < (rdC A n3 x).1 → (rdC A n3 x).2 = (rdM A n3 x).2) := rd_c (fun s _ => fb_eq (fun q => by rw [q] at hx; revert hx; decide) n3 0 _) (fun s hs => sh63 n3 h3 s hs) (2 ^ n3) 0 0 _ _ (Nat.zero_add _) (Or.inr ⟨rfl, rfl, rfl⟩)
theorem fb_cl {d nr : Nat} {A : ld_A} {NT : List nt_E} {w : pi_W} {set : Int32} (hC : af_Conf aw_Sh w) (hL : CL w 5 6 A nr NT) (h6 : nt_c 3 NT ≤ 6) : ∀ (n l : Nat) (a : Int32) {lv : pi_L}, l + n = nt_c 3 NT → pi_get lv 0 = some (.ref 4) → pi_get lv 1 = some (.int set) → pi_get lv 2 = some (.int a) → pi_get lv 3 = some (.int (Int32.ofNat l)) → hq_F (d + 1) sm18 (fun r w' => w' = w ∧ r = some (.int (fbc A set n l a))) (4, lv, [], w) := by
  intro n
  have tn : (Int32.ofNat (nt_c 3 NT)).toInt = (nt_c 3 NT : Int) := hn_t (by omega)
  induction n with
  | zero =>
    intro l a lv hl g0 g1 g2 g3
    have tl : (Int32.ofNat l).toInt = (l : Int) := hn_t (by omega)
    have kc0 : ((Int32.ofInt 3)).toInt = 3 := by decide
    have kz := sy_z0
    refine hq_F.st (s' := (5, _, _, _)) hj18_4 rfl rfl rfl (hs_iln g3) ?_
    refine hq_F.st (s' := (6, _, _, _)) hj18_5 rfl rfl rfl (hs_al g0) ?_
    refine hq_F.st (s' := (9, _, _, _)) hj18_6 rfl rfl rfl (hq_gf hC sh_4 sk_2_11 (hq_ref hC sh_4 (b := 5) rfl)) ?_
    refine hq_F.st (s' := (10, _, _, _)) hj18_9 rfl rfl rfl rfl ?_
    rw [hi_3]
    refine hq_F.call hj18_10 rfl rfl si_2_35 (by decide) (by decide) sz_159 (sy_argsS rfl rfl rfl (Nat.le_of_ble_eq_true rfl) (by decide) rfl (Nat.le_of_ble_eq_true rfl) (by decide)) (ca_at hC sh_5 (j := 3) (by omega) (by omega)) (fun _ _ q => by rw [q.1]) ?_
    rintro r10 w ⟨rfl, rfl⟩
    try dsimp only
    rw [show gv w 5 (3) = Int32.ofNat (nt_c 3 NT) from (hn_e (hL.2.1 3 (by omega)) (by omega))]
    refine hq_F.st (s' := (62, _, _, _)) hj18_13 rfl rfl rfl (hs_ic (ci_ge (by omega)) rfl) ?_
    refine hq_F.st (s' := (63, _, _, _)) hj18_62 rfl rfl rfl (hs_iln g2) ?_
    refine hq_F.en hj18_63 rfl (pi_ri _) ?_
    exact ⟨rfl, rfl⟩
  | succ n ih =>
    intro l a lv hl g0 g1 g2 g3
    have tl : (Int32.ofNat l).toInt = (l : Int) := hn_t (by omega)
    have kc0 : (((Int8.ofInt 32).toInt32)).toInt = 32 := by decide
    have kc1 : (((Int8.ofInt 38).toInt32)).toInt = 38 := by decide
    have kc2 : ((Int32.ofInt (-1))).toInt = (-1) := by decide
    have kc3 : ((Int32.ofInt 1)).toInt = 1 := by decide
    have kc4 : ((Int32.ofInt 3)).toInt = 3 := by decide
    have kz := sy_z0
    refine hq_F.st (s' := (5, _, _, _)) hj18_4 rfl rfl rfl (hs_iln g3) ?_
    refine hq_F.st (s' := (6, _, _, _)) hj18_5 rfl rfl rfl (hs_al g0) ?_
    refine hq_F.st (s' := (9, _, _, _)) hj18_6 rfl rfl rfl (hq_gf hC sh_4 sk_2_11 (hq_ref hC sh_4 (b := 5) rfl)) ?_
    refine hq_F.st (s' := (10, _, _, _)) hj18_9 rfl rfl rfl rfl ?_
    rw [hi_3]
    refine hq_F.call hj18_10 rfl rfl si_2_35 (by decide) (by decide) sz_159 (sy_argsS rfl rfl rfl (Nat.le_of_ble_eq_true rfl) (by decide) rfl (Nat.le_of_ble_eq_true rfl) (by decide)) (ca_at hC sh_5 (j := 3) (by omega) (by omega)) (fun _ _ q => by rw [q.1]) ?_
    rintro r10 w ⟨rfl, rfl⟩
    try dsimp only
    rw [show gv w 5 (3) = Int32.ofNat (nt_c 3 NT) from (hn_e (hL.2.1 3 (by omega)) (by omega))]
    refine hq_F.st (s' := (16, _, _, _)) hj18_13 rfl rfl rfl (hs_icn (t := 62) (ci_gen (by omega)) rfl) ?_
    refine hq_F.st (s' := (17, _, _, _)) hj18_16 rfl rfl rfl (hs_iln g1) ?_
    refine hq_F.st (s' := (18, _, _, _)) hj18_17 rfl rfl rfl (hs_iln g3) ?_
    refine hq_F.st (s' := (19, _, _, _)) hj18_18 rfl rfl rfl rfl ?_
    refine hq_F.st (s' := (20, _, _, _)) hj18_19 rfl rfl rfl rfl ?_
    refine hq_F.st (s' := (21, _, _, _)) hj18_20 rfl rfl rfl rfl ?_
    refine hq_F.st (s' := (22, _, _, _)) hj18_21 rfl rfl rfl rfl ?_
    by_cases b22 : ¬ (((set >>> ((Int32.ofNat l) &&& 31)) &&& (Int32.ofInt 1))).toInt = 1
    · skip
      refine hq_F.st (s' := (56, _, _, _)) hj18_22 rfl rfl rfl (hs_ic (ci_ne (by omega)) rfl) ?_
      refine hq_F.st (s' := (59, _, _, _)) hj18_56 rfl rfl rfl (hs_inc g3 (by decide)) ?_
      refine hq_F.st (s' := (4, _, _, _)) hj18_59 rfl rfl rfl rfl ?_
      have hb : ls_bit set l = false := decide_eq_false (fun q => b22 (sy_one.mpr q))
      rw [fbc, hb, if_neg (by decide)]
      exact ih (l + 1) _ (by omega) (hg_nr g0 (by decide)) (hg_ne g1 (by decide)) (hg_ne g2 (by decide)) (by rw [← hn_s]; exact (pi_get_set _ _ _))
    · skip
      refine hq_F.st (s' := (25, _, _, _)) hj18_22 rfl rfl rfl (hs_icn (t := 56) (ci_nen (by omega)) rfl) ?_
      refine hq_F.st (s' := (26, _, _, _)) hj18_25 rfl rfl rfl (hs_al g0) ?_
      refine hq_F.st (s' := (29, _, _, _)) hj18_26 rfl rfl rfl (hq_gf hC sh_4 sk_2_11 (hq_ref hC sh_4 (b := 5) rfl)) ?_
      refine hq_F.st (s' := (31, _, _, _)) hj18_29 rfl rfl rfl rfl ?_
      refine hq_F.st (s' := (32, _, _, _)) hj18_31 rfl rfl rfl (hs_iln g3) ?_
      refine hq_F.st (s' := (33, _, _, _)) hj18_32 rfl rfl rfl rfl ?_
      rw [hn_k (n := l) hm_38]
      refine hq_F.call hj18_33 rfl rfl si_2_35 (by decide) (by decide) sz_159 (sy_argsS rfl rfl rfl (Nat.le_of_ble_eq_true rfl) (by decide) rfl (Nat.le_of_ble_eq_true rfl) (by decide)) (ca_at hC sh_5 (j := 38 + l) (by omega) (by omega)) (fun _ _ q => by rw [q.1]) ?_
      rintro r33 w ⟨rfl, rfl⟩
      try dsimp only
      rw [show gv w 5 (38 + l) = A 4 l - 1 from (hL.2.2.2 4 l (by decide) (by show l < 6; omega) (fun _ => by omega) (fun q => absurd q (by decide)))]
      refine hq_F.st (s' := (37, _, _, _)) hj18_36 rfl rfl rfl rfl ?_
      by_cases b37 : ((A 4 l - 1)).toInt = (-1)
      · skip
        refine hq_F.st (s' := (42, _, _, _)) hj18_37 rfl rfl rfl (hs_ic (ci_eq (by omega)) rfl) ?_
        refine hq_F.st (s' := (43, _, _, _)) hj18_42 rfl rfl rfl (hs_iln g2) ?_
        refine hq_F.st (s' := (44, _, _, _)) hj18_43 rfl rfl rfl (hs_al g0) ?_
        refine hq_F.st (s' := (47, _, _, _)) hj18_44 rfl rfl rfl (hq_gf hC sh_4 sk_2_11 (hq_ref hC sh_4 (b := 5) rfl)) ?_
        refine hq_F.st (s' := (49, _, _, _)) hj18_47 rfl rfl rfl rfl ?_
        refine hq_F.st (s' := (50, _, _, _)) hj18_49 rfl rfl rfl (hs_iln g3) ?_
        refine hq_F.st (s' := (51, _, _, _)) hj18_50 rfl rfl rfl rfl ?_
        rw [hn_k (n := l) hm_32]
        refine hq_F.call hj18_51 rfl rfl si_2_35 (by decide) (by decide) sz_159 (sy_argsS rfl rfl rfl (Nat.le_of_ble_eq_true rfl) (by decide) rfl (Nat.le_of_ble_eq_true rfl) (by decide)) (ca_at hC sh_5 (j := 32 + l) (by omega) (by omega)) (fun _ _ q => by rw [q.1]) ?_
        rintro r51 w ⟨rfl, rfl⟩
        try dsimp only
        rw [show gv w 5 (32 + l) = A 3 l from (hL.2.2.2 3 l (by decide) (by show l < 6; omega) (fun q => absurd q (by decide)) (fun q => absurd q (by decide)))]
        refine hq_F.st (s' := (55, _, _, _)) hj18_54 rfl rfl rfl rfl ?_
        refine hq_F.st (s' := (56, _, _, _)) hj18_55 rfl rfl rfl rfl ?_
        refine hq_F.st (s' := (59, _, _, _)) hj18_56 rfl rfl rfl (hs_inc (hg_ne g3 (by decide)) (by decide)) ?_
        refine hq_F.st (s' := (4, _, _, _)) hj18_59 rfl rfl rfl rfl ?_
        have hb : ls_bit set l = true := decide_eq_true (sy_one.mp (Decidable.not_not.mp b22))
        rw [fbc, hb, if_pos rfl, if_pos (sy_m1.mp b37)]
        exact ih (l + 1) _ (by omega) (hg_nr (hg_nr g0 (by decide)) (by decide)) (hg_ne (hg_ne g1 (by decide)) (by decide)) (hg_ne (pi_get_set _ _ _) (by decide)) (by rw [← hn_s]; exact (pi_get_set _ _ _))
      · skip
        refine hq_F.st (s' := (40, _, _, _)) hj18_37 rfl rfl rfl (hs_icn (t := 42) (ci_eqn (by omega)) rfl) ?_
        refine hq_F.st (s' := (41, _, _, _)) hj18_40 rfl rfl rfl rfl ?_
        refine hq_F.en hj18_41 rfl rfl ?_
        exact ⟨rfl, by rw [fbc, if_pos (show ls_bit set l = true from decide_eq_true (sy_one.mp (Decidable.not_not.mp b22))), if_neg (fun q => b37 (sy_m1.mpr q))]⟩
theorem fb_c {d nr : Nat} {A : ld_A} {NT : List nt_E} {w : pi_W} {set : Int32} (hC : af_Conf aw_Sh w) (hL : CL w 5 6 A nr NT) (h6 : nt_c 3 NT ≤ 6) : hq_F (d + 1) sm18 (fun r w' => w' = w ∧ r = some (.int (fbc A set (nt_c 3 NT) 0 (Int32.ofInt 0)))) (0, lv_args 0 [.ref 4, .int set], [], w) := by
  have g0 : pi_get (lv_args 0 [.ref 4, .int set]) 0 = some (.ref 4) := rfl
  have g1 : pi_get (lv_args 0 [.ref 4, .int set]) 1 = some (.int set) := rfl
  have kc0 : ((Int32.ofInt 0)).toInt = 0 := by decide
  have kz := sy_z0
  refine hq_F.st (s' := (1, _, _, _)) hj18_0 rfl rfl rfl rfl ?_
  refine hq_F.st (s' := (2, _, _, _)) hj18_1 rfl rfl rfl rfl ?_
  refine hq_F.st (s' := (3, _, _, _)) hj18_2 rfl rfl rfl rfl ?_
  refine hq_F.st (s' := (4, _, _, _)) hj18_3 rfl rfl rfl rfl ?_
  exact fb_cl hC hL h6 (nt_c 3 NT) 0 _ (by omega) (hg_nr (hg_nr g0 (by decide)) (by decide)) (hg_ne (hg_ne g1 (by decide)) (by decide)) (hg_ne (pi_get_set _ _ _) (by decide)) (pi_get_set _ _ _)
theorem co_n3 {d nr : Nat} {A : ld_A} {NT : List nt_E} {w : pi_W} (hC : af_Conf aw_Sh w) (hL : CL w 5 6 A nr NT) (h6 : nt_c 3 NT ≤ 6) : hq_F (d + 1) sm151 (fun r w' => w' = w ∧ r = some (.int (Int32.ofNat (nt_c 3 NT)))) (0, lv_args 0 [.ref 0, .int (Int32.ofInt 3)], [], w) := by
  have g0 : pi_get (lv_args 0 [.ref 0, .int (Int32.ofInt 3)]) 0 = some (.ref 0) := rfl
  have g1 : pi_get (lv_args 0 [.ref 0, .int (Int32.ofInt 3)]) 1 = some (.int (Int32.ofInt 3)) := rfl
  have kc0 : ((Int32.ofInt 3)).toInt = 3 := by decide
  have kc1 : ((Int32.ofInt 4)).toInt = 4 := by decide
  have kz := sy_z0
  refine hq_F.st (s' := (1, _, _, _)) hj151_0 rfl rfl rfl (hs_iln g1) ?_
  refine hq_F.st (s' := (4, _, _, _)) hj151_1 rfl rfl rfl (hs_ifn (t := 21) (ci_ltn (by omega)) rfl) ?_
  refine hq_F.st (s' := (5, _, _, _)) hj151_4 rfl rfl rfl (hs_iln g1) ?_
  refine hq_F.st (s' := (6, _, _, _)) hj151_5 rfl rfl rfl rfl ?_
  refine hq_F.st (s' := (9, _, _, _)) hj151_6 rfl rfl rfl (hs_icn (t := 21) (ci_gtn (by omega)) rfl) ?_
  refine hq_F.st (s' := (10, _, _, _)) hj151_9 rfl rfl rfl (hs_al g0) ?_
  refine hq_F.st (s' := (13, _, _, _)) hj151_10 rfl rfl rfl (hq_gf hC sh_0 sk_10_19 (hq_ref hC sh_0 (b := 4) rfl)) ?_
  refine hq_F.st (s' := (16, _, _, _)) hj151_13 rfl rfl rfl (hq_gf hC sh_4 sk_10_37 (hq_ref hC sh_4 (b := 5) rfl)) ?_
  refine hq_F.st (s' := (17, _, _, _)) hj151_16 rfl rfl rfl (hs_iln g1) ?_
  rw [hi_3]
  refine hq_F.call hj151_17 rfl rfl si_10_152 (by decide) (by decide) sz_159 (sy_argsS rfl rfl rfl (Nat.le_of_ble_eq_true rfl) (by decide) rfl (Nat.le_of_ble_eq_true rfl) (by decide)) (ca_at hC sh_5 (j := 3) (by omega) (by omega)) (fun _ _ q => by rw [q.1]) ?_
  rintro r17 w ⟨rfl, rfl⟩
  try dsimp only
  rw [show gv w 5 (3) = Int32.ofNat (nt_c 3 NT) from (hn_e (hL.2.1 3 (by omega)) (by omega))]
  refine hq_F.en hj151_20 rfl (pi_ri _) ?_
  exact ⟨rfl, rfl⟩
theorem ab_2 {d nr : Nat} {A : ld_A} {NT : List nt_E} {w : pi_W} {x : Int32} (hC : af_Conf aw_Sh w) (hL : CL w 5 6 A nr NT) (h5 : nt_c 2 NT ≤ 5) : hq_F (d + 1) sm153 (fun r w' => w' = w ∧ r = some (.int (tq_b (decide (rd_in (nt_c 2 NT) x))))) (0, lv_args 0 [.ref 0, .int (Int32.ofNat 2), .int x], [], w) := by
  have q64 := sh64 (nt_c 2 NT) (by omega)
  have t2 : (Int32.ofNat (2 ^ nt_c 2 NT)).toInt = ((2 ^ nt_c 2 NT : Nat) : Int) := hn_t (by omega)
  have g0 : pi_get (lv_args 0 [.ref 0, .int (Int32.ofNat 2), .int x]) 0 = some (.ref 0) := rfl
  have g1 : pi_get (lv_args 0 [.ref 0, .int (Int32.ofNat 2), .int x]) 1 = some (.int (Int32.ofNat 2)) := rfl
  have g2 : pi_get (lv_args 0 [.ref 0, .int (Int32.ofNat 2), .int x]) 2 = some (.int x) := rfl
  have kc0 : ((Int32.ofInt 0)).toInt = 0 := by decide
  have kc1 : ((Int32.ofInt 1)).toInt = 1 := by decide
  have kz := sy_z0
  refine hq_F.st (s' := (1, _, _, _)) hj153_0 rfl rfl rfl (hs_iln g2) ?_
  by_cases b1 : (x).toInt < 0
  · skip
    refine hq_F.st (s' := (25, _, _, _)) hj153_1 rfl rfl rfl (hs_if (ci_lt (by omega)) rfl) ?_
    refine hq_F.st (s' := (26, _, _, _)) hj153_25 rfl rfl rfl rfl ?_
    refine hq_F.en hj153_26 rfl rfl ?_
    exact ⟨rfl, by rw [show decide (rd_in (nt_c 2 NT) x) = false from decide_eq_false (by unfold rd_in; omega)]; rfl⟩
  · skip
    refine hq_F.st (s' := (4, _, _, _)) hj153_1 rfl rfl rfl (hs_ifn (t := 25) (ci_ltn (by omega)) rfl) ?_
    refine hq_F.st (s' := (5, _, _, _)) hj153_4 rfl rfl rfl (hs_iln g2) ?_
    refine hq_F.st (s' := (6, _, _, _)) hj153_5 rfl rfl rfl rfl ?_
    refine hq_F.st (s' := (7, _, _, _)) hj153_6 rfl rfl rfl (hs_al g0) ?_
    refine hq_F.st (s' := (10, _, _, _)) hj153_7 rfl rfl rfl (hq_gf hC sh_0 sk_10_19 (hq_ref hC sh_0 (b := 4) rfl)) ?_
    refine hq_F.st (s' := (13, _, _, _)) hj153_10 rfl rfl rfl (hq_gf hC sh_4 sk_10_37 (hq_ref hC sh_4 (b := 5) rfl)) ?_
    refine hq_F.st (s' := (14, _, _, _)) hj153_13 rfl rfl rfl (hs_iln g1) ?_
    refine hq_F.call hj153_14 rfl rfl si_10_152 (by decide) (by decide) sz_159 (sy_argsS rfl rfl rfl (Nat.le_of_ble_eq_true rfl) (by decide) rfl (Nat.le_of_ble_eq_true rfl) (by decide)) (ca_at hC sh_5 (j := 2) (by omega) (by omega)) (fun _ _ q => by rw [q.1]) ?_
    rintro r14 w ⟨rfl, rfl⟩
    try dsimp only
    rw [show gv w 5 (2) = Int32.ofNat (nt_c 2 NT) from (hn_e (hL.2.1 2 (by omega)) (by omega))]
    refine hq_F.st (s' := (18, _, _, _)) hj153_17 rfl rfl rfl rfl ?_
    rw [sh1 (nt_c 2 NT) (by omega)]
    by_cases b18 : ((Int32.ofNat (2 ^ nt_c 2 NT))).toInt ≤ (x).toInt
    · skip
      refine hq_F.st (s' := (25, _, _, _)) hj153_18 rfl rfl rfl (hs_ic (ci_ge (by omega)) rfl) ?_
      refine hq_F.st (s' := (26, _, _, _)) hj153_25 rfl rfl rfl rfl ?_
      refine hq_F.en hj153_26 rfl rfl ?_
      exact ⟨rfl, by rw [show decide (rd_in (nt_c 2 NT) x) = false from decide_eq_false (by unfold rd_in; omega)]; rfl⟩
    · skip
      refine hq_F.st (s' := (21, _, _, _)) hj153_18 rfl rfl rfl (hs_icn (t := 25) (ci_gen (by omega)) rfl) ?_
      refine hq_F.st (s' := (22, _, _, _)) hj153_21 rfl rfl rfl rfl ?_
      refine hq_F.st (s' := (26, _, _, _)) hj153_22 rfl rfl rfl rfl ?_
      refine hq_F.en hj153_26 rfl rfl ?_
      exact ⟨rfl, by rw [show decide (rd_in (nt_c 2 NT) x) = true from decide_eq_true (by unfold rd_in; omega)]; rfl⟩
theorem rd_cl {d nr : Nat} {A : ld_A} {NT : List nt_E} {w : pi_W} {x : Int32} (hC : af_Conf aw_Sh w) (hL : CL w 5 6 A nr NT) (h6 : nt_c 3 NT ≤ 6) {hit : Nat → Bool} (hhit : hit = (fun s => decide (fbc A (Int32.ofNat s) (nt_c 3 NT) 0 (Int32.ofInt 0) = x))) : ∀ (n s m : Nat) (a : Int32) {lv : pi_L}, s + n = 2 ^ nt_c 3 NT → m ≤ s → pi_get lv 0 = some (.ref 0) → pi_get lv 1 = some (.int x) → pi_get lv 2 = some (.int (Int32.ofNat m)) → pi_get lv 3 = some (.int a) → pi_get lv 4 = some (.int (Int32.ofNat s)) → hq_F (d + 2) sm139 (fun r w' => r = some (.int (Int32.ofNat (rd_go hit n s m a).1)) ∧ gv w' 0 18 = if 0 < (rd_go hit n s m a).1 then (rd_go hit n s m a).2 else gv w 0 18) (26, lv, [], w) := by
  intro n
  have q64 := sh64 (nt_c 3 NT) (by omega)
  have t3 : (Int32.ofNat (2 ^ nt_c 3 NT)).toInt = ((2 ^ nt_c 3 NT : Nat) : Int) := hn_t (by omega)
  have hit_e : ∀ s, hit s = decide (fbc A (Int32.ofNat s) (nt_c 3 NT) 0 (Int32.ofInt 0) = x) := fun s => by rw [hhit]
  clear hhit
  induction n with
  | zero =>
    intro s m a lv hs hm g0 g1 g2 g3 g4
    have ts : (Int32.ofNat s).toInt = (s : Int) := hn_t (by omega)
    have tm : (Int32.ofNat m).toInt = (m : Int) := hn_t (by omega)
    have kc0 : ((0 : Int32)).toInt = 0 := by decide
    have kc1 : ((1 : Int32)).toInt = 1 := by decide
    have kc2 : ((Int32.ofInt 1)).toInt = 1 := by decide
    have kc3 : ((Int32.ofInt 3)).toInt = 3 := by decide
    have kz := sy_z0
    refine hq_F.st (s' := (28, _, _, _)) hj139_26 rfl rfl rfl (hs_il g4) ?_
    refine hq_F.st (s' := (29, _, _, _)) hj139_28 rfl rfl rfl rfl ?_
    refine hq_F.st (s' := (30, _, _, _)) hj139_29 rfl rfl rfl (hs_al g0) ?_
    refine hq_F.st (s' := (31, _, _, _)) hj139_30 rfl rfl rfl rfl ?_
    refine hq_F.call hj139_31 rfl rfl si_10_249 (by decide) (by decide) sz_151 (sy_argsV hC sh_0 rfl rfl rfl (Nat.le_of_ble_eq_true rfl) rfl (Nat.le_of_ble_eq_true rfl) rfl (by decide)) (co_n3 (d := d) hC hL h6) (fun _ _ q => by rw [q.1]) ?_
    rintro r31 w ⟨rfl, rfl⟩
    try dsimp only
    refine hq_F.st (s' := (35, _, _, _)) hj139_34 rfl rfl rfl rfl ?_
    rw [sh1 (nt_c 3 NT) (by omega)]
    refine hq_F.st (s' := (65, _, _, _)) hj139_35 rfl rfl rfl (hs_ic (ci_ge (by omega)) rfl) ?_
    refine hq_F.st (s' := (66, _, _, _)) hj139_65 rfl rfl rfl (hs_iln g2) ?_
    by_cases b66 : ((Int32.ofNat m)).toInt ≤ 0
    · skip
      refine hq_F.st (s' := (74, _, _, _)) hj139_66 rfl rfl rfl (hs_if (ci_le (by omega)) rfl) ?_
      refine hq_F.st (s' := (75, _, _, _)) hj139_74 rfl rfl rfl (hs_iln g2) ?_
      refine hq_F.en hj139_75 rfl (pi_ri _) ?_
      exact ⟨rfl, (if_neg (show ¬ 0 < m by omega)).symm⟩
    · skip
      refine hq_F.st (s' := (69, _, _, _)) hj139_66 rfl rfl rfl (hs_ifn (t := 74) (ci_len (by omega)) rfl) ?_
      refine hq_F.st (s' := (70, _, _, _)) hj139_69 rfl rfl rfl (hs_al g0) ?_
      refine hq_F.st (s' := (71, _, _, _)) hj139_70 rfl rfl rfl (hs_iln g3) ?_
      refine sy_pf hj139_71 hC sh_0 sk_10_115 (lo := -2147483648) (hi := 2147483647) rfl (af_i32 _) rfl rfl rfl (fun w21 hC21 hw21 => ?_)
      refine hq_F.st (s' := (75, _, _, _)) hj139_74 rfl rfl rfl (hs_iln g2) ?_
      refine hq_F.en hj139_75 rfl (pi_ri _) ?_
      exact ⟨rfl, by rw [wpv hw21, if_pos ⟨rfl, rfl⟩]; exact (if_pos (show 0 < m by omega)).symm⟩
  | succ n ih =>
    intro s m a lv hs hm g0 g1 g2 g3 g4
    have ts : (Int32.ofNat s).toInt = (s : Int) := hn_t (by omega)
    have tm : (Int32.ofNat m).toInt = (m : Int) := hn_t (by omega)
    have kc0 : ((0 : Int32)).toInt = 0 := by decide
    have kc1 : ((1 : Int32)).toInt = 1 := by decide
    have kc2 : ((Int32.ofInt 1)).toInt = 1 := by decide
    have kc3 : ((Int32.ofInt 3)).toInt = 3 := by decide
    have kz := sy_z0
    refine hq_F.st (s' := (28, _, _, _)) hj139_26 rfl rfl rfl (hs_il g4) ?_
    refine hq_F.st (s' := (29, _, _, _)) hj139_28 rfl rfl rfl rfl ?_
    refine hq_F.st (s' := (30, _, _, _)) hj139_29 rfl rfl rfl (hs_al g0) ?_
    refine hq_F.st (s' := (31, _, _, _)) hj139_30 rfl rfl rfl rfl ?_
    refine hq_F.call hj139_31 rfl rfl si_10_249 (by decide) (by decide) sz_151 (sy_argsV hC sh_0 rfl rfl rfl (Nat.le_of_ble_eq_true rfl) rfl (Nat.le_of_ble_eq_true rfl) rfl (by decide)) (co_n3 (d := d) hC hL h6) (fun _ _ q => by rw [q.1]) ?_
    rintro r31 w ⟨rfl, rfl⟩
    try dsimp only
    refine hq_F.st (s' := (35, _, _, _)) hj139_34 rfl rfl rfl rfl ?_
    rw [sh1 (nt_c 3 NT) (by omega)]
    refine hq_F.st (s' := (38, _, _, _)) hj139_35 rfl rfl rfl (hs_icn (t := 65) (ci_gen (by omega)) rfl) ?_
    refine hq_F.st (s' := (39, _, _, _)) hj139_38 rfl rfl rfl (hs_al g0) ?_
    refine hq_F.st (s' := (42, _, _, _)) hj139_39 rfl rfl rfl (hq_gf hC sh_0 sk_10_19 (hq_ref hC sh_0 (b := 4) rfl)) ?_
    refine hq_F.st (s' := (44, _, _, _)) hj139_42 rfl rfl rfl (hs_il g4) ?_
    refine hq_F.call hj139_44 rfl rfl si_10_264 (by decide) (by decide) sz_18 (sy_argsV hC sh_4 rfl rfl rfl (Nat.le_of_ble_eq_true rfl) rfl (Nat.le_of_ble_eq_true rfl) rfl (by decide)) (fb_c (d := d) hC hL h6) (fun _ _ q => by rw [q.1]) ?_
    rintro r44 w ⟨rfl, rfl⟩
    try dsimp only
    refine hq_F.st (s' := (48, _, _, _)) hj139_47 rfl rfl rfl (hs_iln g1) ?_
    by_cases b48 : ¬ ((fbc A (Int32.ofNat s) (nt_c 3 NT) 0 (Int32.ofInt 0))).toInt = (x).toInt
    · skip
      refine hq_F.st (s' := (59, _, _, _)) hj139_48 rfl rfl rfl (hs_ic (ci_ne (by omega)) rfl) ?_
      refine hq_F.st (s' := (62, _, _, _)) hj139_59 rfl rfl rfl (hs_inc g4 (by decide)) ?_
      refine hq_F.st (s' := (26, _, _, _)) hj139_62 rfl rfl rfl rfl ?_
      rw [rd_go, if_neg (show ¬ hit s = true from fun q => b48 (by rw [of_decide_eq_true ((hit_e s).symm.trans q)]))]
      exact ih (s + 1) m a (by omega) (by omega) (hg_nr g0 (by decide)) (hg_ne g1 (by decide)) (hg_ne g2 (by decide)) (hg_ne g3 (by decide)) (by rw [← hn_s]; exact (pi_get_set _ _ _))
    · skip
      refine hq_F.st (s' := (51, _, _, _)) hj139_48 rfl rfl rfl (hs_icn (t := 59) (ci_nen (by omega)) rfl) ?_
      refine hq_F.st (s' := (54, _, _, _)) hj139_51 rfl rfl rfl (hs_inc g2 (by decide)) ?_
      refine hq_F.st (s' := (55, _, _, _)) hj139_54 rfl rfl rfl (hs_iln (hg_ne g3 (by decide))) ?_
      refine hq_F.st (s' := (57, _, _, _)) hj139_55 rfl rfl rfl (hs_il (hg_ne g4 (by decide))) ?_
      refine hq_F.st (s' := (58, _, _, _)) hj139_57 rfl rfl rfl rfl ?_
      refine hq_F.st (s' := (59, _, _, _)) hj139_58 rfl rfl rfl rfl ?_
      refine hq_F.st (s' := (62, _, _, _)) hj139_59 rfl rfl rfl (hs_inc (hg_ne (hg_ne g4 (by decide)) (by decide)) (by decide)) ?_
      refine hq_F.st (s' := (26, _, _, _)) hj139_62 rfl rfl rfl rfl ?_
      rw [rd_go, if_pos (show hit s = true from (hit_e s).trans (decide_eq_true (Int32.toInt_inj.mp (Decidable.not_not.mp b48))))]
      exact ih (s + 1) (m + 1) _ (by omega) (by omega) (hg_nr (hg_nr (hg_nr g0 (by decide)) (by decide)) (by decide)) (hg_ne (hg_ne (hg_ne g1 (by decide)) (by decide)) (by decide)) (by rw [← hn_s]; exact (hg_ne (hg_ne (pi_get_set _ _ _) (by decide)) (by decide))) (hg_ne (pi_get_set _ _ _) (by decide)) (by rw [← hn_s]; exact (pi_get_set _ _ _))
theorem cx_reads {d nr : Nat} {A : ld_A} {NT : List nt_E} {w : pi_W} {x : Int32} (hC : af_Conf aw_Sh w) (hL : CL w 5 6 A nr NT) (h5 : nt_c 2 NT ≤ 5) (h6 : nt_c 3 NT ≤ 6) : hq_F (d + 2) sm139 (fun r w' => (rd_in (nt_c 2 NT) x → r = some (.int (Int32.ofNat (rdC A (nt_c 3 NT) x).1)) ∧ gv w' 0 18 = if 0 < (rdC A (nt_c 3 NT) x).1 then (rdC A (nt_c 3 NT) x).2 else gv w 0 18) ∧ (¬ rd_in (nt_c 2 NT) x → r = some (.int (Int32.ofInt (-1))) ∧ gv w' 0 18 = gv w 0 18)) (0, lv_args 0 [.ref 0, .int x], [], w) := by
  have g0 : pi_get (lv_args 0 [.ref 0, .int x]) 0 = some (.ref 0) := rfl
  have g1 : pi_get (lv_args 0 [.ref 0, .int x]) 1 = some (.int x) := rfl
  have kc0 : ((0 : Int32)).toInt = 0 := by decide
  have kc1 : ((1 : Int32)).toInt = 1 := by decide
  have kc2 : ((Int32.ofInt (-1))).toInt = (-1) := by decide
  have kc3 : ((Int32.ofInt 0)).toInt = 0 := by decide
  have kc4 : ((Int32.ofInt 1)).toInt = 1 := by decide
  have kc5 : ((Int32.ofInt 2)).toInt = 2 := by decide
  have kc6 : ((Int32.ofInt 3)).toInt = 3 := by decide
  have kz := sy_z0
  refine hq_F.st (s' := (1, _, _, _)) hj139_0 rfl rfl rfl (hs_al g0) ?_
  refine hq_F.st (s' := (2, _, _, _)) hj139_1 rfl rfl rfl rfl ?_
  refine hq_F.st (s' := (3, _, _, _)) hj139_2 rfl rfl rfl (hs_iln g1) ?_
  rw [hi_2]
  refine hq_F.call hj139_3 rfl rfl si_10_228 (by decide) (by decide) sz_153 (sy_argsV hC sh_0 rfl rfl rfl (Nat.le_of_ble_eq_true rfl) rfl (Nat.le_of_ble_eq_true rfl) rfl (by decide)) (ab_2 (d := d) hC hL h5) (fun _ _ q => by rw [q.1]) ?_
  rintro r3 w ⟨rfl, rfl⟩
  try dsimp only
  by_cases hx : rd_in (nt_c 2 NT) x
  · rw [decide_eq_true hx, show tq_b true = (1 : Int32) from rfl]
    refine hq_F.st (s' := (11, _, _, _)) hj139_6 rfl rfl rfl (hs_if (ci_ne (by omega)) rfl) ?_
    refine hq_F.st (s' := (12, _, _, _)) hj139_11 rfl rfl rfl rfl ?_
    refine hq_F.st (s' := (13, _, _, _)) hj139_12 rfl rfl rfl rfl ?_
    refine hq_F.st (s' := (14, _, _, _)) hj139_13 rfl rfl rfl rfl ?_
    refine hq_F.st (s' := (15, _, _, _)) hj139_14 rfl rfl rfl (hs_al (hg_nr g0 (by decide))) ?_
    refine hq_F.st (s' := (16, _, _, _)) hj139_15 rfl rfl rfl rfl ?_
    refine hq_F.call hj139_16 rfl rfl si_10_249 (by decide) (by decide) sz_151 (sy_argsV hC sh_0 rfl rfl rfl (Nat.le_of_ble_eq_true rfl) rfl (Nat.le_of_ble_eq_true rfl) rfl (by decide)) (co_n3 (d := d) hC hL h6) (fun _ _ q => by rw [q.1]) ?_
    rintro r16 w ⟨rfl, rfl⟩
    try dsimp only
    refine hq_F.st (s' := (20, _, _, _)) hj139_19 rfl rfl rfl rfl ?_
    rw [sh1 (nt_c 3 NT) (by omega)]
    refine hq_F.st (s' := (21, _, _, _)) hj139_20 rfl rfl rfl rfl ?_
    refine hq_F.st (s' := (22, _, _, _)) hj139_21 rfl rfl rfl rfl ?_
    refine hq_F.st (s' := (23, _, _, _)) hj139_22 rfl rfl rfl rfl ?_
    refine hq_F.st (s' := (24, _, _, _)) hj139_23 rfl rfl rfl rfl ?_
    refine hq_F.st (s' := (26, _, _, _)) hj139_24 rfl rfl rfl (sy_is (by decide)) ?_
    refine (rd_cl (d := d) hC hL h6 rfl (2 ^ nt_c 3 NT) 0 0 _ (by omega) (by omega) (hg_nr (hg_nr (hg_nr g0 (by decide)) (by decide)) (by decide)) (hg_ne (hg_ne (hg_ne g1 (by decide)) (by decide)) (by decide)) (hg_ne (hg_ne (pi_get_set _ _ _) (by decide)) (by decide)) (hg_ne (pi_get_set _ _ _) (by decide)) (pi_get_set _ _ _)).imp ?_
    rintro r w' ⟨q1, q2⟩
    exact ⟨fun _ => ⟨q1, q2⟩, fun h => absurd hx h⟩
  · rw [decide_eq_false hx, show tq_b false = (0 : Int32) from rfl]
    refine hq_F.st (s' := (9, _, _, _)) hj139_6 rfl rfl rfl (hs_ifn (t := 11) (ci_nen (by omega)) rfl) ?_
    refine hq_F.st (s' := (10, _, _, _)) hj139_9 rfl rfl rfl rfl ?_
    refine hq_F.en hj139_10 rfl rfl ?_
    exact ⟨fun h => absurd h hx, fun _ => ⟨rfl, rfl⟩⟩
theorem MS.n3 {w : pi_W} {A : ld_A} {nr : Nat} {NT : List nt_E} (h : MS w 63 0 66 0 A nr NT) (h6 : nt_c 3 NT ≤ 6) : gv w 63 3 = Int32.ofNat (nt_c 3 NT) := hn_e (by have := h.2.1 3 (by omega); rw [Nat.zero_add] at this; exact this) (by omega)
theorem MS.n2 {w : pi_W} {A : ld_A} {nr : Nat} {NT : List nt_E} (h : MS w 63 0 66 0 A nr NT) (h6 : nt_c 2 NT ≤ 5) : gv w 63 2 = Int32.ofNat (nt_c 2 NT) := hn_e (by have := h.2.1 2 (by omega); rw [Nat.zero_add] at this; exact this) (by omega)
theorem fb_ml {d nr : Nat} {A : ld_A} {NT : List nt_E} {w : pi_W} {set : Int32} (hC : af_Conf aw_Sh w) (hL : MS w 63 0 66 0 A nr NT) (h6 : nt_c 3 NT ≤ 6) : ∀ (n l : Nat) (a : Int32) {lv : pi_L}, l + n = nt_c 3 NT → pi_get lv 0 = some (.ref 61) → pi_get lv 1 = some (.int set) → pi_get lv 2 = some (.int a) → pi_get lv 3 = some (.int (Int32.ofNat l)) → hq_F (d + 1) sm206 (fun r w' => w' = w ∧ r = some (.int (fbm A set n l a))) (4, lv, [], w) := by
  intro n
  have tn : (Int32.ofNat (nt_c 3 NT)).toInt = (nt_c 3 NT : Int) := hn_t (by omega)
  induction n with
  | zero =>
    intro l a lv hl g0 g1 g2 g3
    have tl : (Int32.ofNat l).toInt = (l : Int) := hn_t (by omega)
    have kc0 : ((Int32.ofInt 3)).toInt = 3 := by decide
    have kz := sy_z0
    refine hq_F.st (s' := (5, _, _, _)) hj206_4 rfl rfl rfl (hs_iln g3) ?_
    refine hq_F.st (s' := (6, _, _, _)) hj206_5 rfl rfl rfl (hs_al g0) ?_
    refine hq_F.st (s' := (9, _, _, _)) hj206_6 rfl rfl rfl (hq_gf hC sh_61 sk_11_33 (hq_ref hC sh_61 (b := 63) rfl)) ?_
    refine hq_F.st (s' := (10, _, _, _)) hj206_9 rfl rfl rfl rfl ?_
    refine hq_F.st (s' := (11, _, _, _)) hj206_10 rfl rfl rfl (sy_iav hC hq_s63 (n := 3) (by decide) (by omega)) ?_
    rw [show gv w 63 (3) = Int32.ofNat (nt_c 3 NT) from (hL.n3 h6)]
    refine hq_F.st (s' := (44, _, _, _)) hj206_11 rfl rfl rfl (hs_ic (ci_ge (by omega)) rfl) ?_
    refine hq_F.st (s' := (45, _, _, _)) hj206_44 rfl rfl rfl (hs_iln g2) ?_
    refine hq_F.en hj206_45 rfl (pi_ri _) ?_
    exact ⟨rfl, rfl⟩
  | succ n ih =>
    intro l a lv hl g0 g1 g2 g3
    have tl : (Int32.ofNat l).toInt = (l : Int) := hn_t (by omega)
    have kc0 : (((Int8.ofInt 21).toInt32)).toInt = 21 := by decide
    have kc1 : ((0 : Int32)).toInt = 0 := by decide
    have kc2 : ((1 : Int32)).toInt = 1 := by decide
    have kc3 : ((Int32.ofInt 0)).toInt = 0 := by decide
    have kc4 : ((Int32.ofInt 3)).toInt = 3 := by decide
    have kz := sy_z0
    refine hq_F.st (s' := (5, _, _, _)) hj206_4 rfl rfl rfl (hs_iln g3) ?_
    refine hq_F.st (s' := (6, _, _, _)) hj206_5 rfl rfl rfl (hs_al g0) ?_
    refine hq_F.st (s' := (9, _, _, _)) hj206_6 rfl rfl rfl (hq_gf hC sh_61 sk_11_33 (hq_ref hC sh_61 (b := 63) rfl)) ?_
    refine hq_F.st (s' := (10, _, _, _)) hj206_9 rfl rfl rfl rfl ?_
    refine hq_F.st (s' := (11, _, _, _)) hj206_10 rfl rfl rfl (sy_iav hC hq_s63 (n := 3) (by decide) (by omega)) ?_
    rw [show gv w 63 (3) = Int32.ofNat (nt_c 3 NT) from (hL.n3 h6)]
    refine hq_F.st (s' := (14, _, _, _)) hj206_11 rfl rfl rfl (hs_icn (t := 44) (ci_gen (by omega)) rfl) ?_
    refine hq_F.st (s' := (15, _, _, _)) hj206_14 rfl rfl rfl (hs_iln g2) ?_
    refine hq_F.st (s' := (16, _, _, _)) hj206_15 rfl rfl rfl (hs_iln g1) ?_
    refine hq_F.st (s' := (17, _, _, _)) hj206_16 rfl rfl rfl (hs_iln g3) ?_
    refine hq_F.call hj206_17 rfl rfl si_11_229 (by decide) (by decide) sz_168 (sy_argsS rfl rfl rfl (Nat.le_of_ble_eq_true rfl) (by decide) rfl (Nat.le_of_ble_eq_true rfl) (by decide)) (ml_bit (k := l)) (fun _ _ q => by rw [q.1]) ?_
    rintro r17 w ⟨rfl, rfl⟩
    try dsimp only
    cases hbt : ls_bit set l
    · rw [show tq_b false = (0 : Int32) from rfl]
      refine hq_F.st (s' := (35, _, _, _)) hj206_20 rfl rfl rfl (hs_if (ci_eq (by omega)) rfl) ?_
      refine hq_F.st (s' := (36, _, _, _)) hj206_35 rfl rfl rfl rfl ?_
      refine hq_F.st (s' := (37, _, _, _)) hj206_36 rfl rfl rfl rfl ?_
      refine hq_F.st (s' := (38, _, _, _)) hj206_37 rfl rfl rfl rfl ?_
      refine hq_F.st (s' := (41, _, _, _)) hj206_38 rfl rfl rfl (hs_inc (hg_ne g3 (by decide)) (by decide)) ?_
      refine hq_F.st (s' := (4, _, _, _)) hj206_41 rfl rfl rfl rfl ?_
      rw [fbm, hbt, if_neg (by decide)]
      exact ih (l + 1) _ (by omega) (hg_nr (hg_nr g0 (by decide)) (by decide)) (hg_ne (hg_ne g1 (by decide)) (by decide)) (hg_ne (pi_get_set _ _ _) (by decide)) (by rw [← hn_s]; exact (pi_get_set _ _ _))
    · rw [show tq_b true = (1 : Int32) from rfl]
      refine hq_F.st (s' := (23, _, _, _)) hj206_20 rfl rfl rfl (hs_ifn (t := 35) (ci_eqn (by omega)) rfl) ?_
      refine hq_F.st (s' := (24, _, _, _)) hj206_23 rfl rfl rfl (hs_al g0) ?_
      refine hq_F.st (s' := (27, _, _, _)) hj206_24 rfl rfl rfl (hq_gf hC sh_61 sk_11_33 (hq_ref hC sh_61 (b := 63) rfl)) ?_
      refine hq_F.st (s' := (29, _, _, _)) hj206_27 rfl rfl rfl rfl ?_
      refine hq_F.st (s' := (30, _, _, _)) hj206_29 rfl rfl rfl (hs_iln g3) ?_
      refine hq_F.st (s' := (31, _, _, _)) hj206_30 rfl rfl rfl rfl ?_
      refine hq_F.st (s' := (32, _, _, _)) hj206_31 rfl rfl rfl (sy_iav hC hq_s63 (n := 21 + l) (by rw [hn_k (n := l) hv_21]; exact hn_t (by omega)) (by omega)) ?_
      rw [show gv w 63 (21 + l) = A 3 l from (hL.2.2.2.get (c := 3) (k := l) (by decide) (by show l < 6; omega))]
      refine hq_F.st (s' := (36, _, _, _)) hj206_32 rfl rfl rfl rfl ?_
      refine hq_F.st (s' := (37, _, _, _)) hj206_36 rfl rfl rfl rfl ?_
      refine hq_F.st (s' := (38, _, _, _)) hj206_37 rfl rfl rfl rfl ?_
      refine hq_F.st (s' := (41, _, _, _)) hj206_38 rfl rfl rfl (hs_inc (hg_ne g3 (by decide)) (by decide)) ?_
      refine hq_F.st (s' := (4, _, _, _)) hj206_41 rfl rfl rfl rfl ?_
      rw [fbm, hbt, if_pos rfl]
      exact ih (l + 1) _ (by omega) (hg_nr (hg_nr g0 (by decide)) (by decide)) (hg_ne (hg_ne g1 (by decide)) (by decide)) (hg_ne (pi_get_set _ _ _) (by decide)) (by rw [← hn_s]; exact (pi_get_set _ _ _))
theorem fb_m {d nr : Nat} {A : ld_A} {NT : List nt_E} {w : pi_W} {set : Int32} (hC : af_Conf aw_Sh w) (hL : MS w 63 0 66 0 A nr NT) (h6 : nt_c 3 NT ≤ 6) : hq_F (d + 1) sm206 (fun r w' => w' = w ∧ r = some (.int (fbm A set (nt_c 3 NT) 0 (Int32.ofInt 0)))) (0, lv_args 0 [.ref 61, .int set], [], w) := by
  have g0 : pi_get (lv_args 0 [.ref 61, .int set]) 0 = some (.ref 61) := rfl
  have g1 : pi_get (lv_args 0 [.ref 61, .int set]) 1 = some (.int set) := rfl
  have kc0 : ((Int32.ofInt 0)).toInt = 0 := by decide
  have kz := sy_z0
  refine hq_F.st (s' := (1, _, _, _)) hj206_0 rfl rfl rfl rfl ?_
  refine hq_F.st (s' := (2, _, _, _)) hj206_1 rfl rfl rfl rfl ?_
  refine hq_F.st (s' := (3, _, _, _)) hj206_2 rfl rfl rfl rfl ?_
  refine hq_F.st (s' := (4, _, _, _)) hj206_3 rfl rfl rfl rfl ?_
  exact fb_ml hC hL h6 (nt_c 3 NT) 0 _ (by omega) (hg_nr (hg_nr g0 (by decide)) (by decide)) (hg_ne (hg_ne g1 (by decide)) (by decide)) (hg_ne (pi_get_set _ _ _) (by decide)) (pi_get_set _ _ _)
theorem rp_ml {d nr : Nat} {A : ld_A} {NT : List nt_E} {w : pi_W} {x y2 y3 set : Int32} {B : Bool} {Q : Option Value → pi_W → Prop} (hC : af_Conf aw_Sh w) (hL : MS w 63 0 66 0 A nr NT) (h6 : nt_c 3 NT ≤ 6) (hQ : ∀ lv : pi_L, pi_get lv 0 = some (.ref 61) → pi_get lv 1 = some (.int x) → pi_get lv 2 = some (.int y2) → pi_get lv 3 = some (.int y3) → pi_get lv 4 = some (.int set) → pi_get lv 5 = some (.int (tq_b B)) → hq_F (d + 2) sm259 Q (116, lv, [], w)) : ∀ (n l : Nat) (b : Bool) {lv : pi_L}, l + n = nt_c 3 NT → rpk A set n l b = B → pi_get lv 0 = some (.ref 61) → pi_get lv 1 = some (.int x) → pi_get lv 2 = some (.int y2) → pi_get lv 3 = some (.int y3) → pi_get lv 4 = some (.int set) → pi_get lv 5 = some (.int (tq_b b)) → pi_get lv 6 = some (.int (Int32.ofNat l)) → hq_F (d + 2) sm259 Q (64, lv, [], w) := by
  intro n
  have tn : (Int32.ofNat (nt_c 3 NT)).toInt = (nt_c 3 NT : Int) := hn_t (by omega)
  induction n with
  | zero =>
    intro l b lv hl hB g0 g1 g2 g3 g4 g5 g6
    have tl : (Int32.ofNat l).toInt = (l : Int) := hn_t (by omega)
    have hB : b = B := hB
    have kc0 : ((Int32.ofInt 3)).toInt = 3 := by decide
    have kz := sy_z0
    refine hq_F.st (s' := (66, _, _, _)) hj259_64 rfl rfl rfl (hs_il g6) ?_
    refine hq_F.st (s' := (67, _, _, _)) hj259_66 rfl rfl rfl (hs_al g0) ?_
    refine hq_F.st (s' := (70, _, _, _)) hj259_67 rfl rfl rfl (hq_gf hC sh_61 sk_11_33 (hq_ref hC sh_61 (b := 63) rfl)) ?_
    refine hq_F.st (s' := (71, _, _, _)) hj259_70 rfl rfl rfl rfl ?_
    refine hq_F.st (s' := (72, _, _, _)) hj259_71 rfl rfl rfl (sy_iav hC hq_s63 (n := 3) (by decide) (by omega)) ?_
    rw [show gv w 63 (3) = Int32.ofNat (nt_c 3 NT) from (hL.n3 h6)]
    refine hq_F.st (s' := (116, _, _, _)) hj259_72 rfl rfl rfl (hs_ic (ci_ge (by omega)) rfl) ?_
    exact hQ _ g0 g1 g2 g3 g4 (by rw [← hB]; exact g5)
  | succ n ih =>
    intro l b lv hl hB g0 g1 g2 g3 g4 g5 g6
    have tl : (Int32.ofNat l).toInt = (l : Int) := hn_t (by omega)
    have kc0 : (((Int8.ofInt 27).toInt32)).toInt = 27 := by decide
    have kc1 : ((0 : Int32)).toInt = 0 := by decide
    have kc2 : ((1 : Int32)).toInt = 1 := by decide
    have kc3 : ((Int32.ofInt 0)).toInt = 0 := by decide
    have kc4 : ((Int32.ofInt 1)).toInt = 1 := by decide
    have kc5 : ((Int32.ofInt 3)).toInt = 3 := by decide
    have kz := sy_z0
    refine hq_F.st (s' := (66, _, _, _)) hj259_64 rfl rfl rfl (hs_il g6) ?_
    refine hq_F.st (s' := (67, _, _, _)) hj259_66 rfl rfl rfl (hs_al g0) ?_
    refine hq_F.st (s' := (70, _, _, _)) hj259_67 rfl rfl rfl (hq_gf hC sh_61 sk_11_33 (hq_ref hC sh_61 (b := 63) rfl)) ?_
    refine hq_F.st (s' := (71, _, _, _)) hj259_70 rfl rfl rfl rfl ?_
    refine hq_F.st (s' := (72, _, _, _)) hj259_71 rfl rfl rfl (sy_iav hC hq_s63 (n := 3) (by decide) (by omega)) ?_
    rw [show gv w 63 (3) = Int32.ofNat (nt_c 3 NT) from (hL.n3 h6)]
    refine hq_F.st (s' := (75, _, _, _)) hj259_72 rfl rfl rfl (hs_icn (t := 116) (ci_gen (by omega)) rfl) ?_
    refine hq_F.st (s' := (77, _, _, _)) hj259_75 rfl rfl rfl (hs_il g5) ?_
    by_cases b77 : ((tq_b b)).toInt = 0
    · skip
      refine hq_F.st (s' := (107, _, _, _)) hj259_77 rfl rfl rfl (hs_if (ci_eq (by omega)) rfl) ?_
      refine hq_F.st (s' := (108, _, _, _)) hj259_107 rfl rfl rfl rfl ?_
      refine hq_F.st (s' := (110, _, _, _)) hj259_108 rfl rfl rfl (sy_is (by decide)) ?_
      refine hq_F.st (s' := (113, _, _, _)) hj259_110 rfl rfl rfl (hs_inc (hg_ne g6 (by decide)) (by decide)) ?_
      refine hq_F.st (s' := (64, _, _, _)) hj259_113 rfl rfl rfl rfl ?_
      have hb : b = false := by cases b; rfl; exact absurd b77 (by decide)
      have hn : (b && (!ls_bit set l || decide (A 4 l = 0))) = false := by rw [hb, Bool.false_and]
      exact ih (l + 1) false (by omega) (by rw [← hB, rpk, hn]) (hg_nr (hg_nr g0 (by decide)) (by decide)) (hg_ne (hg_ne g1 (by decide)) (by decide)) (hg_ne (hg_ne g2 (by decide)) (by decide)) (hg_ne (hg_ne g3 (by decide)) (by decide)) (hg_ne (hg_ne g4 (by decide)) (by decide)) (hg_ne (pi_get_set _ _ _) (by decide)) (by rw [← hn_s]; exact (pi_get_set _ _ _))
    · skip
      refine hq_F.st (s' := (80, _, _, _)) hj259_77 rfl rfl rfl (hs_ifn (t := 107) (ci_eqn (by omega)) rfl) ?_
      refine hq_F.st (s' := (82, _, _, _)) hj259_80 rfl rfl rfl (hs_il g4) ?_
      refine hq_F.st (s' := (84, _, _, _)) hj259_82 rfl rfl rfl (hs_il g6) ?_
      refine hq_F.call hj259_84 rfl rfl si_11_229 (by decide) (by decide) sz_168 (sy_argsS rfl rfl rfl (Nat.le_of_ble_eq_true rfl) (by decide) rfl (Nat.le_of_ble_eq_true rfl) (by decide)) (ml_bit (k := l)) (fun _ _ q => by rw [q.1]) ?_
      rintro r84 w ⟨rfl, rfl⟩
      try dsimp only
      cases hbt : ls_bit set l
      · rw [show tq_b false = (0 : Int32) from rfl]
        refine hq_F.st (s' := (103, _, _, _)) hj259_87 rfl rfl rfl (hs_if (ci_eq (by omega)) rfl) ?_
        refine hq_F.st (s' := (104, _, _, _)) hj259_103 rfl rfl rfl rfl ?_
        refine hq_F.st (s' := (108, _, _, _)) hj259_104 rfl rfl rfl rfl ?_
        refine hq_F.st (s' := (110, _, _, _)) hj259_108 rfl rfl rfl (sy_is (by decide)) ?_
        refine hq_F.st (s' := (113, _, _, _)) hj259_110 rfl rfl rfl (hs_inc (hg_ne g6 (by decide)) (by decide)) ?_
        refine hq_F.st (s' := (64, _, _, _)) hj259_113 rfl rfl rfl rfl ?_
        have hb : b = true := by cases b; exact absurd (show (tq_b false).toInt = 0 by decide) b77; rfl
        have hn : (b && (!ls_bit set l || decide (A 4 l = 0))) = true := by rw [hb, hbt]; rfl
        exact ih (l + 1) true (by omega) (by rw [← hB, rpk, hn]) (hg_nr (hg_nr g0 (by decide)) (by decide)) (hg_ne (hg_ne g1 (by decide)) (by decide)) (hg_ne (hg_ne g2 (by decide)) (by decide)) (hg_ne (hg_ne g3 (by decide)) (by decide)) (hg_ne (hg_ne g4 (by decide)) (by decide)) (hg_ne (pi_get_set _ _ _) (by decide)) (by rw [← hn_s]; exact (pi_get_set _ _ _))
      · rw [show tq_b true = (1 : Int32) from rfl]
        refine hq_F.st (s' := (90, _, _, _)) hj259_87 rfl rfl rfl (hs_ifn (t := 103) (ci_eqn (by omega)) rfl) ?_
        refine hq_F.st (s' := (91, _, _, _)) hj259_90 rfl rfl rfl (hs_al g0) ?_
        refine hq_F.st (s' := (94, _, _, _)) hj259_91 rfl rfl rfl (hq_gf hC sh_61 sk_11_33 (hq_ref hC sh_61 (b := 63) rfl)) ?_
        refine hq_F.st (s' := (96, _, _, _)) hj259_94 rfl rfl rfl rfl ?_
        refine hq_F.st (s' := (98, _, _, _)) hj259_96 rfl rfl rfl (hs_il g6) ?_
        refine hq_F.st (s' := (99, _, _, _)) hj259_98 rfl rfl rfl rfl ?_
        refine hq_F.st (s' := (100, _, _, _)) hj259_99 rfl rfl rfl (sy_iav hC hq_s63 (n := 27 + l) (by rw [hn_k (n := l) hv_27]; exact hn_t (by omega)) (by omega)) ?_
        rw [show gv w 63 (27 + l) = A 4 l from (hL.2.2.2.get (c := 4) (k := l) (by decide) (by show l < 6; omega))]
        by_cases b100 : ¬ ((A 4 l)).toInt = 0
        · skip
          refine hq_F.st (s' := (107, _, _, _)) hj259_100 rfl rfl rfl (hs_if (ci_ne (by omega)) rfl) ?_
          refine hq_F.st (s' := (108, _, _, _)) hj259_107 rfl rfl rfl rfl ?_
          refine hq_F.st (s' := (110, _, _, _)) hj259_108 rfl rfl rfl (sy_is (by decide)) ?_
          refine hq_F.st (s' := (113, _, _, _)) hj259_110 rfl rfl rfl (hs_inc (hg_ne g6 (by decide)) (by decide)) ?_
          refine hq_F.st (s' := (64, _, _, _)) hj259_113 rfl rfl rfl rfl ?_
          have hb : b = true := by cases b; exact absurd (show (tq_b false).toInt = 0 by decide) b77; rfl
          have hn : (b && (!ls_bit set l || decide (A 4 l = 0))) = false := by rw [hb, hbt, decide_eq_false (fun q => b100 (by rw [q]; decide))]; rfl
          exact ih (l + 1) false (by omega) (by rw [← hB, rpk, hn]) (hg_nr (hg_nr g0 (by decide)) (by decide)) (hg_ne (hg_ne g1 (by decide)) (by decide)) (hg_ne (hg_ne g2 (by decide)) (by decide)) (hg_ne (hg_ne g3 (by decide)) (by decide)) (hg_ne (hg_ne g4 (by decide)) (by decide)) (hg_ne (pi_get_set _ _ _) (by decide)) (by rw [← hn_s]; exact (pi_get_set _ _ _))
        · skip
          refine hq_F.st (s' := (103, _, _, _)) hj259_100 rfl rfl rfl (hs_ifn (t := 107) (ci_nen (by omega)) rfl) ?_
          refine hq_F.st (s' := (104, _, _, _)) hj259_103 rfl rfl rfl rfl ?_
          refine hq_F.st (s' := (108, _, _, _)) hj259_104 rfl rfl rfl rfl ?_
          refine hq_F.st (s' := (110, _, _, _)) hj259_108 rfl rfl rfl (sy_is (by decide)) ?_
          refine hq_F.st (s' := (113, _, _, _)) hj259_110 rfl rfl rfl (hs_inc (hg_ne g6 (by decide)) (by decide)) ?_
          refine hq_F.st (s' := (64, _, _, _)) hj259_113 rfl rfl rfl rfl ?_
          have hb : b = true := by cases b; exact absurd (show (tq_b false).toInt = 0 by decide) b77; rfl
          have hn : (b && (!ls_bit set l || decide (A 4 l = 0))) = true := by rw [hb, hbt, decide_eq_true (sy_zz (Decidable.not_not.mp b100))]; rfl
          exact ih (l + 1) true (by omega) (by rw [← hB, rpk, hn]) (hg_nr (hg_nr g0 (by decide)) (by decide)) (hg_ne (hg_ne g1 (by decide)) (by decide)) (hg_ne (hg_ne g2 (by decide)) (by decide)) (hg_ne (hg_ne g3 (by decide)) (by decide)) (hg_ne (hg_ne g4 (by decide)) (by decide)) (hg_ne (pi_get_set _ _ _) (by decide)) (by rw [← hn_s]; exact (pi_get_set _ _ _))
theorem rd_ml {d nr : Nat} {A : ld_A} {NT : List nt_E} {w : pi_W} {x : Int32} (hC : af_Conf aw_Sh w) (hL : MS w 63 0 66 0 A nr NT) (h6 : nt_c 3 NT ≤ 6) {hit : Nat → Bool} (hhit : hit = (fun s => rpk A (Int32.ofNat s) (nt_c 3 NT) 0 (decide (fbm A (Int32.ofNat s) (nt_c 3 NT) 0 (Int32.ofInt 0) = x)))) : ∀ (n s m : Nat) (a : Int32) {lv : pi_L}, s + n = 2 ^ nt_c 3 NT → m ≤ s → pi_get lv 0 = some (.ref 61) → pi_get lv 1 = some (.int x) → pi_get lv 2 = some (.int (Int32.ofNat m)) → pi_get lv 3 = some (.int a) → pi_get lv 4 = some (.int (Int32.ofNat s)) → hq_F (d + 2) sm259 (fun r w' => r = some (.int (Int32.ofNat (rd_go hit n s m a).1)) ∧ gv w' 61 30 = (if 0 < (rd_go hit n s m a).1 then Int32.ofInt 1 else gv w 61 30) ∧ gv w' 61 29 = if 0 < (rd_go hit n s m a).1 then (rd_go hit n s m a).2 else gv w 61 29) (31, lv, [], w) := by
  intro n
  have q64 := sh64 (nt_c 3 NT) (by omega)
  have t3 : (Int32.ofNat (2 ^ nt_c 3 NT)).toInt = ((2 ^ nt_c 3 NT : Nat) : Int) := hn_t (by omega)
  have hit_e : ∀ s, hit s = rpk A (Int32.ofNat s) (nt_c 3 NT) 0 (decide (fbm A (Int32.ofNat s) (nt_c 3 NT) 0 (Int32.ofInt 0) = x)) := fun s => by rw [hhit]
  clear hhit
  induction n with
  | zero =>
    intro s m a lv hs hm g0 g1 g2 g3 g4
    have ts : (Int32.ofNat s).toInt = (s : Int) := hn_t (by omega)
    have tm : (Int32.ofNat m).toInt = (m : Int) := hn_t (by omega)
    have kc0 : ((0 : Int32)).toInt = 0 := by decide
    have kc1 : ((1 : Int32)).toInt = 1 := by decide
    have kc2 : ((Int32.ofInt 1)).toInt = 1 := by decide
    have kc3 : ((Int32.ofInt 3)).toInt = 3 := by decide
    have kz := sy_z0
    refine hq_F.st (s' := (33, _, _, _)) hj259_31 rfl rfl rfl (hs_il g4) ?_
    refine hq_F.st (s' := (34, _, _, _)) hj259_33 rfl rfl rfl rfl ?_
    refine hq_F.st (s' := (35, _, _, _)) hj259_34 rfl rfl rfl (hs_al g0) ?_
    refine hq_F.st (s' := (38, _, _, _)) hj259_35 rfl rfl rfl (hq_gf hC sh_61 sk_11_33 (hq_ref hC sh_61 (b := 63) rfl)) ?_
    refine hq_F.st (s' := (39, _, _, _)) hj259_38 rfl rfl rfl rfl ?_
    refine hq_F.st (s' := (40, _, _, _)) hj259_39 rfl rfl rfl (sy_iav hC hq_s63 (n := 3) (by decide) (by omega)) ?_
    rw [show gv w 63 (3) = Int32.ofNat (nt_c 3 NT) from (hL.n3 h6)]
    refine hq_F.st (s' := (41, _, _, _)) hj259_40 rfl rfl rfl rfl ?_
    rw [sh1 (nt_c 3 NT) (by omega)]
    refine hq_F.st (s' := (138, _, _, _)) hj259_41 rfl rfl rfl (hs_ic (ci_ge (by omega)) rfl) ?_
    refine hq_F.st (s' := (139, _, _, _)) hj259_138 rfl rfl rfl (hs_iln g2) ?_
    by_cases b139 : ((Int32.ofNat m)).toInt ≤ 0
    · skip
      refine hq_F.st (s' := (152, _, _, _)) hj259_139 rfl rfl rfl (hs_if (ci_le (by omega)) rfl) ?_
      refine hq_F.st (s' := (153, _, _, _)) hj259_152 rfl rfl rfl (hs_iln g2) ?_
      refine hq_F.en hj259_153 rfl (pi_ri _) ?_
      exact ⟨rfl, (if_neg (show ¬ 0 < m by omega)).symm, (if_neg (show ¬ 0 < m by omega)).symm⟩
    · skip
      refine hq_F.st (s' := (142, _, _, _)) hj259_139 rfl rfl rfl (hs_ifn (t := 152) (ci_len (by omega)) rfl) ?_
      refine hq_F.st (s' := (143, _, _, _)) hj259_142 rfl rfl rfl (hs_al g0) ?_
      refine hq_F.st (s' := (144, _, _, _)) hj259_143 rfl rfl rfl rfl ?_
      refine sy_pf hj259_144 hC sh_61 sk_11_390 (lo := 0) (hi := 1) rfl (by decide) (by decide) (by decide) rfl (fun w21 hC21 hw21 => ?_)
      refine hq_F.st (s' := (148, _, _, _)) hj259_147 rfl rfl rfl (hs_al g0) ?_
      refine hq_F.st (s' := (149, _, _, _)) hj259_148 rfl rfl rfl (hs_iln g3) ?_
      refine sy_pf hj259_149 hC21 sh_61 sk_11_393 (lo := -2147483648) (hi := 2147483647) rfl (af_i32 _) rfl rfl rfl (fun w22 hC22 hw22 => ?_)
      refine hq_F.st (s' := (153, _, _, _)) hj259_152 rfl rfl rfl (hs_iln g2) ?_
      refine hq_F.en hj259_153 rfl (pi_ri _) ?_
      exact ⟨rfl, by rw [wpv hw22, if_neg (by decide), wpv hw21, if_pos ⟨rfl, rfl⟩]; exact (if_pos (show 0 < m by omega)).symm, by rw [wpv hw22, if_pos ⟨rfl, rfl⟩]; exact (if_pos (show 0 < m by omega)).symm⟩
  | succ n ih =>
    intro s m a lv hs hm g0 g1 g2 g3 g4
    have ts : (Int32.ofNat s).toInt = (s : Int) := hn_t (by omega)
    have tm : (Int32.ofNat m).toInt = (m : Int) := hn_t (by omega)
    have kc0 : ((0 : Int32)).toInt = 0 := by decide
    have kc1 : ((1 : Int32)).toInt = 1 := by decide
    have kc2 : ((Int32.ofInt 0)).toInt = 0 := by decide
    have kc3 : ((Int32.ofInt 1)).toInt = 1 := by decide
    have kc4 : ((Int32.ofInt 3)).toInt = 3 := by decide
    have kz := sy_z0
    refine hq_F.st (s' := (33, _, _, _)) hj259_31 rfl rfl rfl (hs_il g4) ?_
    refine hq_F.st (s' := (34, _, _, _)) hj259_33 rfl rfl rfl rfl ?_
    refine hq_F.st (s' := (35, _, _, _)) hj259_34 rfl rfl rfl (hs_al g0) ?_
    refine hq_F.st (s' := (38, _, _, _)) hj259_35 rfl rfl rfl (hq_gf hC sh_61 sk_11_33 (hq_ref hC sh_61 (b := 63) rfl)) ?_
    refine hq_F.st (s' := (39, _, _, _)) hj259_38 rfl rfl rfl rfl ?_
    refine hq_F.st (s' := (40, _, _, _)) hj259_39 rfl rfl rfl (sy_iav hC hq_s63 (n := 3) (by decide) (by omega)) ?_
    rw [show gv w 63 (3) = Int32.ofNat (nt_c 3 NT) from (hL.n3 h6)]
    refine hq_F.st (s' := (41, _, _, _)) hj259_40 rfl rfl rfl rfl ?_
    rw [sh1 (nt_c 3 NT) (by omega)]
    refine hq_F.st (s' := (44, _, _, _)) hj259_41 rfl rfl rfl (hs_icn (t := 138) (ci_gen (by omega)) rfl) ?_
    refine hq_F.st (s' := (45, _, _, _)) hj259_44 rfl rfl rfl (hs_al g0) ?_
    refine hq_F.st (s' := (47, _, _, _)) hj259_45 rfl rfl rfl (hs_il g4) ?_
    refine hq_F.call hj259_47 rfl rfl si_11_280 (by decide) (by decide) sz_206 (sy_argsV hC sh_61 rfl rfl rfl (Nat.le_of_ble_eq_true rfl) rfl (Nat.le_of_ble_eq_true rfl) rfl (by decide)) (fb_m (d := d) hC hL h6) (fun _ _ q => by rw [q.1]) ?_
    rintro r47 w ⟨rfl, rfl⟩
    try dsimp only
    refine hq_F.st (s' := (51, _, _, _)) hj259_50 rfl rfl rfl (hs_iln g1) ?_
    by_cases b51 : ¬ ((fbm A (Int32.ofNat s) (nt_c 3 NT) 0 (Int32.ofInt 0))).toInt = (x).toInt
    · skip
      refine hq_F.st (s' := (58, _, _, _)) hj259_51 rfl rfl rfl (hs_ic (ci_ne (by omega)) rfl) ?_
      refine hq_F.st (s' := (59, _, _, _)) hj259_58 rfl rfl rfl rfl ?_
      refine hq_F.st (s' := (61, _, _, _)) hj259_59 rfl rfl rfl (sy_is (by decide)) ?_
      refine hq_F.st (s' := (62, _, _, _)) hj259_61 rfl rfl rfl rfl ?_
      refine hq_F.st (s' := (64, _, _, _)) hj259_62 rfl rfl rfl (sy_is (by decide)) ?_
      have hd : decide (fbm A (Int32.ofNat s) (nt_c 3 NT) 0 (Int32.ofInt 0) = x) = false := decide_eq_false (fun q => b51 (by rw [q]))
      refine rp_ml (d := d) (B := hit s) hC hL h6 (fun lv2 p0 p1 p2 p3 p4 p5 => ?_) (nt_c 3 NT) 0 false (by omega) (by rw [hit_e s, hd]) (hg_nr (hg_nr g0 (by decide)) (by decide)) (hg_ne (hg_ne g1 (by decide)) (by decide)) (hg_ne (hg_ne g2 (by decide)) (by decide)) (hg_ne (hg_ne g3 (by decide)) (by decide)) (hg_ne (hg_ne g4 (by decide)) (by decide)) (hg_ne (pi_get_set _ _ _) (by decide)) (pi_get_set _ _ _)
      refine hq_F.st (s' := (118, _, _, _)) hj259_116 rfl rfl rfl (hs_il p5) ?_
      cases hh : hit s with
      | false =>
        refine hq_F.st (s' := (121, _, _, _)) hj259_118 rfl rfl rfl (hs_ifn (t := 124) (ci_nen (by show ¬ ¬ (0 : Int32).toInt = (0 : Int32).toInt; omega)) rfl) ?_
        refine hq_F.st (s' := (132, _, _, _)) hj259_121 rfl rfl rfl rfl ?_
        refine hq_F.st (s' := (135, _, _, _)) hj259_132 rfl rfl rfl (hs_inc p4 (by decide)) ?_
        refine hq_F.st (s' := (31, _, _, _)) hj259_135 rfl rfl rfl rfl ?_
        rw [rd_go, hh, if_neg (by decide)]
        exact ih (s + 1) m a (by omega) (by omega) (hg_nr p0 (by decide)) (hg_ne p1 (by decide)) (hg_ne p2 (by decide)) (hg_ne p3 (by decide)) (by rw [← hn_s]; exact pi_get_set _ _ _)
      | true =>
        refine hq_F.st (s' := (124, _, _, _)) hj259_118 rfl rfl rfl (hs_if (ci_ne (by show ¬ (1 : Int32).toInt = (0 : Int32).toInt; decide)) rfl) ?_
        refine hq_F.st (s' := (127, _, _, _)) hj259_124 rfl rfl rfl (hs_inc p2 (by decide)) ?_
        refine hq_F.st (s' := (128, _, _, _)) hj259_127 rfl rfl rfl (hs_iln (hg_ne p3 (by decide))) ?_
        refine hq_F.st (s' := (130, _, _, _)) hj259_128 rfl rfl rfl (hs_il (hg_ne p4 (by decide))) ?_
        refine hq_F.st (s' := (131, _, _, _)) hj259_130 rfl rfl rfl rfl ?_
        refine hq_F.st (s' := (132, _, _, _)) hj259_131 rfl rfl rfl rfl ?_
        refine hq_F.st (s' := (135, _, _, _)) hj259_132 rfl rfl rfl (hs_inc (hg_ne (hg_ne p4 (by decide)) (by decide)) (by decide)) ?_
        refine hq_F.st (s' := (31, _, _, _)) hj259_135 rfl rfl rfl rfl ?_
        rw [rd_go, hh, if_pos rfl]
        exact ih (s + 1) (m + 1) _ (by omega) (by omega) (hg_nr (hg_nr (hg_nr p0 (by decide)) (by decide)) (by decide)) (hg_ne (hg_ne (hg_ne p1 (by decide)) (by decide)) (by decide)) (hg_ne (hg_ne (by rw [← hn_s]; exact pi_get_set _ _ _) (by decide)) (by decide)) (hg_ne (pi_get_set _ _ _) (by decide)) (by rw [← hn_s]; exact pi_get_set _ _ _)
    · skip
      refine hq_F.st (s' := (54, _, _, _)) hj259_51 rfl rfl rfl (hs_icn (t := 58) (ci_nen (by omega)) rfl) ?_
      refine hq_F.st (s' := (55, _, _, _)) hj259_54 rfl rfl rfl rfl ?_
      refine hq_F.st (s' := (59, _, _, _)) hj259_55 rfl rfl rfl rfl ?_
      refine hq_F.st (s' := (61, _, _, _)) hj259_59 rfl rfl rfl (sy_is (by decide)) ?_
      refine hq_F.st (s' := (62, _, _, _)) hj259_61 rfl rfl rfl rfl ?_
      refine hq_F.st (s' := (64, _, _, _)) hj259_62 rfl rfl rfl (sy_is (by decide)) ?_
      have hd : decide (fbm A (Int32.ofNat s) (nt_c 3 NT) 0 (Int32.ofInt 0) = x) = true := decide_eq_true (Int32.toInt_inj.mp (Decidable.not_not.mp b51))
      refine rp_ml (d := d) (B := hit s) hC hL h6 (fun lv2 p0 p1 p2 p3 p4 p5 => ?_) (nt_c 3 NT) 0 true (by omega) (by rw [hit_e s, hd]) (hg_nr (hg_nr g0 (by decide)) (by decide)) (hg_ne (hg_ne g1 (by decide)) (by decide)) (hg_ne (hg_ne g2 (by decide)) (by decide)) (hg_ne (hg_ne g3 (by decide)) (by decide)) (hg_ne (hg_ne g4 (by decide)) (by decide)) (hg_ne (pi_get_set _ _ _) (by decide)) (pi_get_set _ _ _)
      refine hq_F.st (s' := (118, _, _, _)) hj259_116 rfl rfl rfl (hs_il p5) ?_
      cases hh : hit s with
      | false =>
        refine hq_F.st (s' := (121, _, _, _)) hj259_118 rfl rfl rfl (hs_ifn (t := 124) (ci_nen (by show ¬ ¬ (0 : Int32).toInt = (0 : Int32).toInt; omega)) rfl) ?_
        refine hq_F.st (s' := (132, _, _, _)) hj259_121 rfl rfl rfl rfl ?_
        refine hq_F.st (s' := (135, _, _, _)) hj259_132 rfl rfl rfl (hs_inc p4 (by decide)) ?_
        refine hq_F.st (s' := (31, _, _, _)) hj259_135 rfl rfl rfl rfl ?_
        rw [rd_go, hh, if_neg (by decide)]
        exact ih (s + 1) m a (by omega) (by omega) (hg_nr p0 (by decide)) (hg_ne p1 (by decide)) (hg_ne p2 (by decide)) (hg_ne p3 (by decide)) (by rw [← hn_s]; exact pi_get_set _ _ _)
      | true =>
        refine hq_F.st (s' := (124, _, _, _)) hj259_118 rfl rfl rfl (hs_if (ci_ne (by show ¬ (1 : Int32).toInt = (0 : Int32).toInt; decide)) rfl) ?_
        refine hq_F.st (s' := (127, _, _, _)) hj259_124 rfl rfl rfl (hs_inc p2 (by decide)) ?_
        refine hq_F.st (s' := (128, _, _, _)) hj259_127 rfl rfl rfl (hs_iln (hg_ne p3 (by decide))) ?_
        refine hq_F.st (s' := (130, _, _, _)) hj259_128 rfl rfl rfl (hs_il (hg_ne p4 (by decide))) ?_
        refine hq_F.st (s' := (131, _, _, _)) hj259_130 rfl rfl rfl rfl ?_
        refine hq_F.st (s' := (132, _, _, _)) hj259_131 rfl rfl rfl rfl ?_
        refine hq_F.st (s' := (135, _, _, _)) hj259_132 rfl rfl rfl (hs_inc (hg_ne (hg_ne p4 (by decide)) (by decide)) (by decide)) ?_
        refine hq_F.st (s' := (31, _, _, _)) hj259_135 rfl rfl rfl rfl ?_
        rw [rd_go, hh, if_pos rfl]
        exact ih (s + 1) (m + 1) _ (by omega) (by omega) (hg_nr (hg_nr (hg_nr p0 (by decide)) (by decide)) (by decide)) (hg_ne (hg_ne (hg_ne p1 (by decide)) (by decide)) (by decide)) (hg_ne (hg_ne (by rw [← hn_s]; exact pi_get_set _ _ _) (by decide)) (by decide)) (hg_ne (pi_get_set _ _ _) (by decide)) (by rw [← hn_s]; exact pi_get_set _ _ _)
theorem mx_reads {d nr : Nat} {A : ld_A} {NT : List nt_E} {w : pi_W} {x : Int32} (hC : af_Conf aw_Sh w) (hL : MS w 63 0 66 0 A nr NT) (h5 : nt_c 2 NT ≤ 5) (h6 : nt_c 3 NT ≤ 6) : hq_F (d + 2) sm259 (fun r w' => (rd_in (nt_c 2 NT) x → r = some (.int (Int32.ofNat (rdM A (nt_c 3 NT) x).1)) ∧ gv w' 61 30 = (if 0 < (rdM A (nt_c 3 NT) x).1 then Int32.ofInt 1 else gv w 61 30) ∧ gv w' 61 29 = if 0 < (rdM A (nt_c 3 NT) x).1 then (rdM A (nt_c 3 NT) x).2 else gv w 61 29) ∧ (¬ rd_in (nt_c 2 NT) x → r = some (.int (Int32.ofInt (-1))) ∧ gv w' 61 30 = gv w 61 30 ∧ gv w' 61 29 = gv w 61 29)) (0, lv_args 0 [.ref 61, .int x], [], w) := by
  have q64 := sh64 (nt_c 2 NT) (by omega)
  have t2 : (Int32.ofNat (2 ^ nt_c 2 NT)).toInt = ((2 ^ nt_c 2 NT : Nat) : Int) := hn_t (by omega)
  have g0 : pi_get (lv_args 0 [.ref 61, .int x]) 0 = some (.ref 61) := rfl
  have g1 : pi_get (lv_args 0 [.ref 61, .int x]) 1 = some (.int x) := rfl
  have kc0 : (((Int8.ofInt 63).toInt32)).toInt = 63 := by decide
  have kc1 : ((0 : Int32)).toInt = 0 := by decide
  have kc2 : ((1 : Int32)).toInt = 1 := by decide
  have kc3 : ((Int32.ofInt (-1))).toInt = (-1) := by decide
  have kc4 : ((Int32.ofInt 0)).toInt = 0 := by decide
  have kc5 : ((Int32.ofInt 1)).toInt = 1 := by decide
  have kc6 : ((Int32.ofInt 2)).toInt = 2 := by decide
  have kz := sy_z0
  refine hq_F.st (s' := (1, _, _, _)) hj259_0 rfl rfl rfl (hs_al g0) ?_
  refine hq_F.st (s' := (2, _, _, _)) hj259_1 rfl rfl rfl rfl ?_
  refine sy_pf hj259_2 hC sh_61 sk_11_1 (lo := -2147483648) (hi := 2147483647) rfl (af_i32 _) rfl rfl rfl (fun w21 hC21 hw21 => ?_)
  refine hq_F.st (s' := (6, _, _, _)) hj259_5 rfl rfl rfl (hs_iln g1) ?_
  by_cases b6 : (x).toInt < 0
  · skip
    refine hq_F.st (s' := (21, _, _, _)) hj259_6 rfl rfl rfl (hs_if (ci_lt (by omega)) rfl) ?_
    refine hq_F.st (s' := (22, _, _, _)) hj259_21 rfl rfl rfl rfl ?_
    refine hq_F.en hj259_22 rfl rfl ?_
    exact ⟨fun h => absurd h (by unfold rd_in; omega), fun _ => ⟨rfl, by rw [wpv hw21, if_neg (by decide)], by rw [wpv hw21, if_neg (by decide)]⟩⟩
  · skip
    refine hq_F.st (s' := (9, _, _, _)) hj259_6 rfl rfl rfl (hs_ifn (t := 21) (ci_ltn (by omega)) rfl) ?_
    refine hq_F.st (s' := (10, _, _, _)) hj259_9 rfl rfl rfl (hs_iln g1) ?_
    refine hq_F.st (s' := (11, _, _, _)) hj259_10 rfl rfl rfl rfl ?_
    refine hq_F.st (s' := (12, _, _, _)) hj259_11 rfl rfl rfl (hs_al g0) ?_
    refine hq_F.st (s' := (15, _, _, _)) hj259_12 rfl rfl rfl (hq_gf hC21 sh_61 sk_11_33 (hq_ref hC21 sh_61 (b := 63) rfl)) ?_
    refine hq_F.st (s' := (16, _, _, _)) hj259_15 rfl rfl rfl rfl ?_
    refine hq_F.st (s' := (17, _, _, _)) hj259_16 rfl rfl rfl (sy_iav hC21 hq_s63 (n := 2) (by decide) (by omega)) ?_
    rw [show gv w21 63 (2) = Int32.ofNat (nt_c 2 NT) from ((hL.fr (wpF hw21) (by decide) (by decide)).n2 h5)]
    refine hq_F.st (s' := (18, _, _, _)) hj259_17 rfl rfl rfl rfl ?_
    rw [sh1 (nt_c 2 NT) (by omega)]
    by_cases b18 : (x).toInt < ((Int32.ofNat (2 ^ nt_c 2 NT))).toInt
    · skip
      refine hq_F.st (s' := (23, _, _, _)) hj259_18 rfl rfl rfl (hs_ic (ci_lt (by omega)) rfl) ?_
      refine hq_F.st (s' := (24, _, _, _)) hj259_23 rfl rfl rfl rfl ?_
      refine hq_F.st (s' := (25, _, _, _)) hj259_24 rfl rfl rfl rfl ?_
      refine hq_F.st (s' := (27, _, _, _)) hj259_25 rfl rfl rfl rfl ?_
      refine hq_F.st (s' := (28, _, _, _)) hj259_27 rfl rfl rfl rfl ?_
      refine hq_F.st (s' := (29, _, _, _)) hj259_28 rfl rfl rfl rfl ?_
      refine hq_F.st (s' := (31, _, _, _)) hj259_29 rfl rfl rfl (sy_is (by decide)) ?_
      have hx : rd_in (nt_c 2 NT) x := by unfold rd_in; omega
      refine (rd_ml (d := d) hC21 (hL.fr (wpF hw21) (by decide) (by decide)) h6 rfl (2 ^ nt_c 3 NT) 0 0 _ (by omega) (by omega) (hg_nr (hg_nr (hg_nr g0 (by decide)) (by decide)) (by decide)) (hg_ne (hg_ne (hg_ne g1 (by decide)) (by decide)) (by decide)) (hg_ne (hg_ne (pi_get_set _ _ _) (by decide)) (by decide)) (hg_ne (pi_get_set _ _ _) (by decide)) (pi_get_set _ _ _)).imp ?_
      rintro r w' ⟨q1, q2, q3⟩
      rw [show gv w21 61 30 = gv w 61 30 from by rw [wpv hw21, if_neg (by decide)]] at q2
      rw [show gv w21 61 29 = gv w 61 29 from by rw [wpv hw21, if_neg (by decide)]] at q3
      exact ⟨fun _ => ⟨q1, q2, q3⟩, fun h => absurd hx h⟩
    · skip
      refine hq_F.st (s' := (21, _, _, _)) hj259_18 rfl rfl rfl (hs_icn (t := 23) (ci_ltn (by omega)) rfl) ?_
      refine hq_F.st (s' := (22, _, _, _)) hj259_21 rfl rfl rfl rfl ?_
      refine hq_F.en hj259_22 rfl rfl ?_
      exact ⟨fun h => absurd h (by unfold rd_in; omega), fun _ => ⟨rfl, by rw [wpv hw21, if_neg (by decide)], by rw [wpv hw21, if_neg (by decide)]⟩⟩
theorem cx_surely {d : Nat} {w : pi_W} (hC : af_Conf aw_Sh w) : hq_F d sm140 (fun r _ => r = some (.int (gv w 0 18))) (0, lv_args 0 [.ref 0], [], w) := by
  have g0 : pi_get (lv_args 0 [.ref 0]) 0 = some (.ref 0) := rfl
  have kz := sy_z0
  refine hq_F.st (s' := (1, _, _, _)) hj140_0 rfl rfl rfl (hs_al g0) ?_
  refine hq_F.st (s' := (4, _, _, _)) hj140_1 rfl rfl rfl (hq_gf hC sh_0 sk_10_115 (sy_v hC (by decide) rfl)) ?_
  refine hq_F.en hj140_4 rfl (pi_ri _) ?_
  rfl
theorem mx_surely {d : Nat} {w : pi_W} (hC : af_Conf aw_Sh w) : hq_F d sm260 (fun r _ => r = some (.int (if (gv w 61 30).toInt = 0 then Int32.ofInt (-1) else gv w 61 29))) (0, lv_args 0 [.ref 61], [], w) := by
  have g0 : pi_get (lv_args 0 [.ref 61]) 0 = some (.ref 61) := rfl
  have kc0 : ((Int32.ofInt (-1))).toInt = (-1) := by decide
  have kc1 : ((Int32.ofInt 0)).toInt = 0 := by decide
  have kz := sy_z0
  refine hq_F.st (s' := (1, _, _, _)) hj260_0 rfl rfl rfl (hs_al g0) ?_
  refine hq_F.st (s' := (2, _, _, _)) hj260_1 rfl rfl rfl rfl ?_
  refine sy_pf hj260_2 hC sh_61 sk_11_1 (lo := -2147483648) (hi := 2147483647) rfl (af_i32 _) rfl rfl rfl (fun w21 hC21 hw21 => ?_)
  refine hq_F.st (s' := (6, _, _, _)) hj260_5 rfl rfl rfl (hs_al g0) ?_
  refine hq_F.st (s' := (9, _, _, _)) hj260_6 rfl rfl rfl (hq_gf hC21 sh_61 sk_11_390 (sy_v hC21 (by decide) rfl)) ?_
  have q6 : (gv w21 61 30).toInt = (gv w 61 30).toInt := by rw [wpv hw21, if_neg (by decide)]
  have e30 : gv w21 61 30 = gv w 61 30 := by rw [wpv hw21, if_neg (by decide)]
  by_cases b9 : ((gv w21 61 30)).toInt = 0
  · skip
    refine hq_F.st (s' := (19, _, _, _)) hj260_9 rfl rfl rfl (hs_if (ci_eq (by omega)) rfl) ?_
    refine hq_F.st (s' := (20, _, _, _)) hj260_19 rfl rfl rfl rfl ?_
    refine hq_F.en hj260_20 rfl rfl ?_
    exact congrArg (fun v => some (Value.int v)) (if_pos (by rw [e30] at b9; exact b9)).symm
  · skip
    refine hq_F.st (s' := (12, _, _, _)) hj260_9 rfl rfl rfl (hs_ifn (t := 19) (ci_eqn (by omega)) rfl) ?_
    refine hq_F.st (s' := (13, _, _, _)) hj260_12 rfl rfl rfl (hs_al g0) ?_
    refine hq_F.st (s' := (16, _, _, _)) hj260_13 rfl rfl rfl (hq_gf hC21 sh_61 sk_11_393 (sy_v hC21 (by decide) rfl)) ?_
    have q13 : (gv w21 61 29).toInt = (gv w 61 29).toInt := by rw [wpv hw21, if_neg (by decide)]
    refine hq_F.st (s' := (20, _, _, _)) hj260_16 rfl rfl rfl rfl ?_
    refine hq_F.en hj260_20 rfl (pi_ri _) ?_
    rw [show gv w21 61 29 = gv w 61 29 from by rw [wpv hw21, if_neg (by decide)]]
    exact congrArg (fun v => some (Value.int v)) (if_neg (by rw [e30] at b9; exact b9)).symm
