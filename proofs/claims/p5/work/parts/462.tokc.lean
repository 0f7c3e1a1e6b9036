/-! ===== the class reads TOKENS; by program ===== -/
theorem sk_9_15 : pi_look pi_fT 9 15 = some (9, 1, 169) := rfl
theorem sk_9_33 : pi_look pi_fT 9 33 = some (9, 2, 171) := rfl
theorem sk_9_37 : pi_look pi_fT 9 37 = some (9, 3, 172) := rfl
theorem sk_9_40 : pi_look pi_fT 9 40 = some (9, 4, 173) := rfl
theorem sk_9_56 : pi_look pi_fT 9 56 = some (9, 7, 179) := rfl
theorem sk_9_59 : pi_look pi_fT 9 59 = some (9, 8, 182) := rfl
theorem sk_9_63 : pi_look pi_fT 9 63 = some (9, 9, 186) := rfl
theorem sk_9_66 : pi_look pi_fT 9 66 = some (9, 5, 177) := rfl
theorem sk_9_75 : pi_look pi_fT 9 75 = some (9, 6, 178) := rfl
theorem sk_9_9 : pi_look pi_fT 9 9 = some (9, 0, 168) := rfl
theorem si_9_52 : pi_look pi_iT 9 52 = some (2, 96, 1, 491) := rfl
theorem si_9_69 : pi_look pi_iT 9 69 = some (8, 0, 2, 495) := rfl
theorem si_9_78 : pi_look pi_iT 9 78 = some (0, 101, 1, 498) := rfl
theorem si_9_82 : pi_look pi_iT 9 82 = some (0, 102, 1, 501) := rfl
theorem si_9_85 : pi_look pi_iT 9 85 = some (2, 99, 1, 504) := rfl
theorem si_9_89 : pi_look pi_iT 9 89 = some (2, 100, 1, 508) := rfl
def sm100 : pi_M := (9, 4, (some .int), false, mc_100)
def sm101 : pi_M := (9, 1, (some .boolean), false, mc_101)
def sm102 : pi_M := (9, 1, (some .boolean), false, mc_102)
def sm96 : pi_M := (9, 2, (some .int), false, mc_96)
def sm98 : pi_M := (9, 3, none, false, mc_98)
def sm99 : pi_M := (9, 6, none, false, mc_99)
def sf_1 : List (Nat ⊕ (Int × Int) ⊕ Unit) := match (aw_Sh[1]? : Option af_C) with
  | some (.inr (_, f)) => f
  | _ => []
theorem sh_1 : aw_Sh[1]? = some (.inr (9, sf_1)) := rfl
def sf_2 : List (Nat × Int × Int) := match (aw_Sh[2]? : Option af_C) with
  | some (.inl (_, _, S)) => S
  | _ => []
theorem sh_2 : aw_Sh[2]? = some (.inl (1, 940, sf_2)) := rfl
def sf_3 : List (Nat × Int × Int) := match (aw_Sh[3]? : Option af_C) with
  | some (.inl (_, _, S)) => S
  | _ => []
theorem sh_3 : aw_Sh[3]? = some (.inl (2, 29, sf_3)) := rfl
set_option maxRecDepth 100000 in
theorem sz_100 : pi_mt[100]? = some (mn_100, prog_11_method_7_code, (9, 4, (some .int), false, mc_100)) := rfl
set_option maxRecDepth 100000 in
theorem sz_101 : pi_mt[101]? = some (mn_101, prog_11_method_8_code, (9, 1, (some .boolean), false, mc_101)) := rfl
set_option maxRecDepth 100000 in
theorem sz_102 : pi_mt[102]? = some (mn_102, prog_11_method_9_code, (9, 1, (some .boolean), false, mc_102)) := rfl
set_option maxRecDepth 100000 in
theorem sz_96 : pi_mt[96]? = some (mn_96, prog_11_method_3_code, (9, 2, (some .int), false, mc_96)) := rfl
set_option maxRecDepth 100000 in
theorem sz_98 : pi_mt[98]? = some (mn_98, prog_11_method_5_code, (9, 3, none, false, mc_98)) := rfl
set_option maxRecDepth 100000 in
theorem sz_99 : pi_mt[99]? = some (mn_99, prog_11_method_6_code, (9, 6, none, false, mc_99)) := rfl
theorem hf96_0 : pi_fetch mc_96 0 = some (.iload_n 1, 1) := rfl
theorem hf96_1 : pi_fetch mc_96 1 = some (.ifCond .lt 25, 3) := rfl
theorem hf96_4 : pi_fetch mc_96 4 = some (.iload_n 1, 1) := rfl
theorem hf96_5 : pi_fetch mc_96 5 = some (.aload_n 0, 1) := rfl
theorem hf96_6 : pi_fetch mc_96 6 = some (.getfield 9, 3) := rfl
theorem hf96_9 : pi_fetch mc_96 9 = some (.arraylength, 1) := rfl
theorem hf96_10 : pi_fetch mc_96 10 = some (.if_icmp .ge 16, 3) := rfl
theorem hf96_13 : pi_fetch mc_96 13 = some (.aload_n 0, 1) := rfl
theorem hf96_14 : pi_fetch mc_96 14 = some (.getfield 9, 3) := rfl
theorem hf96_17 : pi_fetch mc_96 17 = some (.iload_n 1, 1) := rfl
theorem hf96_18 : pi_fetch mc_96 18 = some (.baload, 1) := rfl
theorem hf96_19 : pi_fetch mc_96 19 = some (.sipush 255, 3) := rfl
theorem hf96_22 : pi_fetch mc_96 22 = some (.iand, 1) := rfl
theorem hf96_23 : pi_fetch mc_96 23 = some (.goto 4, 3) := rfl
theorem hf96_26 : pi_fetch mc_96 26 = some (.iconst 0, 1) := rfl
theorem hf96_27 : pi_fetch mc_96 27 = some (.ireturn, 1) := rfl
theorem hf101_0 : pi_fetch mc_101 0 = some (.iload_n 0, 1) := rfl
theorem hf101_1 : pi_fetch mc_101 1 = some (.bipush 97, 2) := rfl
theorem hf101_3 : pi_fetch mc_101 3 = some (.if_icmp .lt 13, 3) := rfl
theorem hf101_6 : pi_fetch mc_101 6 = some (.iload_n 0, 1) := rfl
theorem hf101_7 : pi_fetch mc_101 7 = some (.bipush 122, 2) := rfl
theorem hf101_9 : pi_fetch mc_101 9 = some (.if_icmp .gt 7, 3) := rfl
theorem hf101_12 : pi_fetch mc_101 12 = some (.iconst 1, 1) := rfl
theorem hf101_13 : pi_fetch mc_101 13 = some (.goto 4, 3) := rfl
theorem hf101_16 : pi_fetch mc_101 16 = some (.iconst 0, 1) := rfl
theorem hf101_17 : pi_fetch mc_101 17 = some (.ireturn, 1) := rfl
theorem hf102_0 : pi_fetch mc_102 0 = some (.iload_n 0, 1) := rfl
theorem hf102_1 : pi_fetch mc_102 1 = some (.bipush 48, 2) := rfl
theorem hf102_3 : pi_fetch mc_102 3 = some (.if_icmp .lt 13, 3) := rfl
theorem hf102_6 : pi_fetch mc_102 6 = some (.iload_n 0, 1) := rfl
theorem hf102_7 : pi_fetch mc_102 7 = some (.bipush 57, 2) := rfl
theorem hf102_9 : pi_fetch mc_102 9 = some (.if_icmp .gt 7, 3) := rfl
theorem hf102_12 : pi_fetch mc_102 12 = some (.iconst 1, 1) := rfl
theorem hf102_13 : pi_fetch mc_102 13 = some (.goto 4, 3) := rfl
theorem hf102_16 : pi_fetch mc_102 16 = some (.iconst 0, 1) := rfl
theorem hf102_17 : pi_fetch mc_102 17 = some (.ireturn, 1) := rfl
theorem hf98_0 : pi_fetch mc_98 0 = some (.aload_n 0, 1) := rfl
theorem hf98_1 : pi_fetch mc_98 1 = some (.getfield 40, 3) := rfl
theorem hf98_4 : pi_fetch mc_98 4 = some (.istore_n 1, 1) := rfl
theorem hf98_5 : pi_fetch mc_98 5 = some (.iload_n 1, 1) := rfl
theorem hf98_6 : pi_fetch mc_98 6 = some (.aload_n 0, 1) := rfl
theorem hf98_7 : pi_fetch mc_98 7 = some (.getfield 33, 3) := rfl
theorem hf98_10 : pi_fetch mc_98 10 = some (.if_icmp .ge 29, 3) := rfl
theorem hf98_13 : pi_fetch mc_98 13 = some (.aload_n 0, 1) := rfl
theorem hf98_14 : pi_fetch mc_98 14 = some (.iload_n 1, 1) := rfl
theorem hf98_15 : pi_fetch mc_98 15 = some (.invokevirtual 52, 3) := rfl
theorem hf98_18 : pi_fetch mc_98 18 = some (.bipush 32, 2) := rfl
theorem hf98_20 : pi_fetch mc_98 20 = some (.if_icmp .eq 13, 3) := rfl
theorem hf98_23 : pi_fetch mc_98 23 = some (.aload_n 0, 1) := rfl
theorem hf98_24 : pi_fetch mc_98 24 = some (.iload_n 1, 1) := rfl
theorem hf98_25 : pi_fetch mc_98 25 = some (.invokevirtual 52, 3) := rfl
theorem hf98_28 : pi_fetch mc_98 28 = some (.bipush 10, 2) := rfl
theorem hf98_30 : pi_fetch mc_98 30 = some (.if_icmp .ne 9, 3) := rfl
theorem hf98_33 : pi_fetch mc_98 33 = some (.iinc 1 1, 3) := rfl
theorem hf98_36 : pi_fetch mc_98 36 = some (.goto (-31), 3) := rfl
theorem hf98_39 : pi_fetch mc_98 39 = some (.aload_n 0, 1) := rfl
theorem hf98_40 : pi_fetch mc_98 40 = some (.iconst 0, 1) := rfl
theorem hf98_41 : pi_fetch mc_98 41 = some (.putfield 56, 3) := rfl
theorem hf98_44 : pi_fetch mc_98 44 = some (.aload_n 0, 1) := rfl
theorem hf98_45 : pi_fetch mc_98 45 = some (.lconst 0, 1) := rfl
theorem hf98_46 : pi_fetch mc_98 46 = some (.putfield 59, 3) := rfl
theorem hf98_49 : pi_fetch mc_98 49 = some (.aload_n 0, 1) := rfl
theorem hf98_50 : pi_fetch mc_98 50 = some (.iconst (-1), 1) := rfl
theorem hf98_51 : pi_fetch mc_98 51 = some (.putfield 63, 3) := rfl
theorem hf98_54 : pi_fetch mc_98 54 = some (.iload_n 1, 1) := rfl
theorem hf98_55 : pi_fetch mc_98 55 = some (.aload_n 0, 1) := rfl
theorem hf98_56 : pi_fetch mc_98 56 = some (.getfield 33, 3) := rfl
theorem hf98_59 : pi_fetch mc_98 59 = some (.if_icmp .ge 11, 3) := rfl
theorem hf98_62 : pi_fetch mc_98 62 = some (.iload_n 1, 1) := rfl
theorem hf98_63 : pi_fetch mc_98 63 = some (.aload_n 0, 1) := rfl
theorem hf98_64 : pi_fetch mc_98 64 = some (.getfield 37, 3) := rfl
theorem hf98_67 : pi_fetch mc_98 67 = some (.if_icmp .lt 39, 3) := rfl
theorem hf98_70 : pi_fetch mc_98 70 = some (.aload_n 0, 1) := rfl
theorem hf98_71 : pi_fetch mc_98 71 = some (.aload_n 0, 1) := rfl
theorem hf98_72 : pi_fetch mc_98 72 = some (.getfield 33, 3) := rfl
theorem hf98_75 : pi_fetch mc_98 75 = some (.aload_n 0, 1) := rfl
theorem hf98_76 : pi_fetch mc_98 76 = some (.getfield 37, 3) := rfl
theorem hf98_79 : pi_fetch mc_98 79 = some (.if_icmp .le 7, 3) := rfl
theorem hf98_82 : pi_fetch mc_98 82 = some (.iconst 1, 1) := rfl
theorem hf98_83 : pi_fetch mc_98 83 = some (.goto 4, 3) := rfl
theorem hf98_86 : pi_fetch mc_98 86 = some (.iconst 0, 1) := rfl
theorem hf98_87 : pi_fetch mc_98 87 = some (.putfield 66, 3) := rfl
theorem hf98_90 : pi_fetch mc_98 90 = some (.aload_n 0, 1) := rfl
theorem hf98_91 : pi_fetch mc_98 91 = some (.aload_n 0, 1) := rfl
theorem hf98_92 : pi_fetch mc_98 92 = some (.getfield 33, 3) := rfl
theorem hf98_95 : pi_fetch mc_98 95 = some (.aload_n 0, 1) := rfl
theorem hf98_96 : pi_fetch mc_98 96 = some (.getfield 37, 3) := rfl
theorem hf98_99 : pi_fetch mc_98 99 = some (.invokestatic 69, 3) := rfl
theorem hf98_102 : pi_fetch mc_98 102 = some (.putfield 75, 3) := rfl
theorem hf98_105 : pi_fetch mc_98 105 = some (.return_, 1) := rfl
theorem hf98_106 : pi_fetch mc_98 106 = some (.aload_n 0, 1) := rfl
theorem hf98_107 : pi_fetch mc_98 107 = some (.iload_n 1, 1) := rfl
theorem hf98_108 : pi_fetch mc_98 108 = some (.putfield 75, 3) := rfl
theorem hf98_111 : pi_fetch mc_98 111 = some (.aload_n 0, 1) := rfl
theorem hf98_112 : pi_fetch mc_98 112 = some (.iload_n 1, 1) := rfl
theorem hf98_113 : pi_fetch mc_98 113 = some (.invokevirtual 52, 3) := rfl
theorem hf98_116 : pi_fetch mc_98 116 = some (.istore_n 2, 1) := rfl
theorem hf98_117 : pi_fetch mc_98 117 = some (.iload_n 2, 1) := rfl
theorem hf98_118 : pi_fetch mc_98 118 = some (.invokestatic 78, 3) := rfl
theorem hf98_121 : pi_fetch mc_98 121 = some (.ifCond .ne 10, 3) := rfl
theorem hf98_124 : pi_fetch mc_98 124 = some (.iload_n 2, 1) := rfl
theorem hf98_125 : pi_fetch mc_98 125 = some (.invokestatic 82, 3) := rfl
theorem hf98_128 : pi_fetch mc_98 128 = some (.ifCond .eq 9, 3) := rfl
theorem hf98_131 : pi_fetch mc_98 131 = some (.aload_n 0, 1) := rfl
theorem hf98_132 : pi_fetch mc_98 132 = some (.iload_n 1, 1) := rfl
theorem hf98_133 : pi_fetch mc_98 133 = some (.invokevirtual 85, 3) := rfl
theorem hf98_136 : pi_fetch mc_98 136 = some (.return_, 1) := rfl
theorem hf98_137 : pi_fetch mc_98 137 = some (.aload_n 0, 1) := rfl
theorem hf98_138 : pi_fetch mc_98 138 = some (.iload_n 1, 1) := rfl
theorem hf98_139 : pi_fetch mc_98 139 = some (.iconst 1, 1) := rfl
theorem hf98_140 : pi_fetch mc_98 140 = some (.iadd, 1) := rfl
theorem hf98_141 : pi_fetch mc_98 141 = some (.putfield 40, 3) := rfl
theorem hf98_144 : pi_fetch mc_98 144 = some (.aload_n 0, 1) := rfl
theorem hf98_145 : pi_fetch mc_98 145 = some (.iload_n 2, 1) := rfl
theorem hf98_146 : pi_fetch mc_98 146 = some (.putfield 56, 3) := rfl
theorem hf98_149 : pi_fetch mc_98 149 = some (.aload_n 0, 1) := rfl
theorem hf98_150 : pi_fetch mc_98 150 = some (.iload_n 2, 1) := rfl
theorem hf98_151 : pi_fetch mc_98 151 = some (.bipush 59, 2) := rfl
theorem hf98_153 : pi_fetch mc_98 153 = some (.if_icmp .eq 33, 3) := rfl
theorem hf98_156 : pi_fetch mc_98 156 = some (.iload_n 2, 1) := rfl
theorem hf98_157 : pi_fetch mc_98 157 = some (.bipush 60, 2) := rfl
theorem hf98_159 : pi_fetch mc_98 159 = some (.if_icmp .eq 27, 3) := rfl
theorem hf98_162 : pi_fetch mc_98 162 = some (.iload_n 2, 1) := rfl
theorem hf98_163 : pi_fetch mc_98 163 = some (.bipush 61, 2) := rfl
theorem hf98_165 : pi_fetch mc_98 165 = some (.if_icmp .eq 21, 3) := rfl
theorem hf98_168 : pi_fetch mc_98 168 = some (.iload_n 2, 1) := rfl
theorem hf98_169 : pi_fetch mc_98 169 = some (.bipush 62, 2) := rfl
theorem hf98_171 : pi_fetch mc_98 171 = some (.if_icmp .eq 15, 3) := rfl
theorem hf98_174 : pi_fetch mc_98 174 = some (.iload_n 2, 1) := rfl
theorem hf98_175 : pi_fetch mc_98 175 = some (.bipush 40, 2) := rfl
theorem hf98_177 : pi_fetch mc_98 177 = some (.if_icmp .eq 9, 3) := rfl
theorem hf98_180 : pi_fetch mc_98 180 = some (.iload_n 2, 1) := rfl
theorem hf98_181 : pi_fetch mc_98 181 = some (.bipush 41, 2) := rfl
theorem hf98_183 : pi_fetch mc_98 183 = some (.if_icmp .ne 7, 3) := rfl
theorem hf98_186 : pi_fetch mc_98 186 = some (.iconst 4, 1) := rfl
theorem hf98_187 : pi_fetch mc_98 187 = some (.goto 4, 3) := rfl
theorem hf98_190 : pi_fetch mc_98 190 = some (.iconst 1, 1) := rfl
theorem hf98_191 : pi_fetch mc_98 191 = some (.putfield 66, 3) := rfl
theorem hf98_194 : pi_fetch mc_98 194 = some (.return_, 1) := rfl
theorem hf99_0 : pi_fetch mc_99 0 = some (.iconst 0, 1) := rfl
theorem hf99_1 : pi_fetch mc_99 1 = some (.istore_n 2, 1) := rfl
theorem hf99_2 : pi_fetch mc_99 2 = some (.iconst 0, 1) := rfl
theorem hf99_3 : pi_fetch mc_99 3 = some (.istore_n 3, 1) := rfl
theorem hf99_4 : pi_fetch mc_99 4 = some (.iload_n 1, 1) := rfl
theorem hf99_5 : pi_fetch mc_99 5 = some (.istore 4, 2) := rfl
theorem hf99_7 : pi_fetch mc_99 7 = some (.iload 4, 2) := rfl
theorem hf99_9 : pi_fetch mc_99 9 = some (.aload_n 0, 1) := rfl
theorem hf99_10 : pi_fetch mc_99 10 = some (.getfield 33, 3) := rfl
theorem hf99_13 : pi_fetch mc_99 13 = some (.if_icmp .ge 96, 3) := rfl
theorem hf99_16 : pi_fetch mc_99 16 = some (.aload_n 0, 1) := rfl
theorem hf99_17 : pi_fetch mc_99 17 = some (.iload 4, 2) := rfl
theorem hf99_19 : pi_fetch mc_99 19 = some (.invokevirtual 52, 3) := rfl
theorem hf99_22 : pi_fetch mc_99 22 = some (.invokestatic 78, 3) := rfl
theorem hf99_25 : pi_fetch mc_99 25 = some (.ifCond .ne 15, 3) := rfl
theorem hf99_28 : pi_fetch mc_99 28 = some (.aload_n 0, 1) := rfl
theorem hf99_29 : pi_fetch mc_99 29 = some (.iload 4, 2) := rfl
theorem hf99_31 : pi_fetch mc_99 31 = some (.invokevirtual 52, 3) := rfl
theorem hf99_34 : pi_fetch mc_99 34 = some (.invokestatic 82, 3) := rfl
theorem hf99_37 : pi_fetch mc_99 37 = some (.ifCond .eq 72, 3) := rfl
theorem hf99_40 : pi_fetch mc_99 40 = some (.aload_n 0, 1) := rfl
theorem hf99_41 : pi_fetch mc_99 41 = some (.iload 4, 2) := rfl
theorem hf99_43 : pi_fetch mc_99 43 = some (.invokevirtual 52, 3) := rfl
theorem hf99_46 : pi_fetch mc_99 46 = some (.istore 5, 2) := rfl
theorem hf99_48 : pi_fetch mc_99 48 = some (.iload 5, 2) := rfl
theorem hf99_50 : pi_fetch mc_99 50 = some (.invokestatic 78, 3) := rfl
theorem hf99_53 : pi_fetch mc_99 53 = some (.ifCond .eq 30, 3) := rfl
theorem hf99_56 : pi_fetch mc_99 56 = some (.iinc 2 1, 3) := rfl
theorem hf99_59 : pi_fetch mc_99 59 = some (.aload_n 0, 1) := rfl
theorem hf99_60 : pi_fetch mc_99 60 = some (.aload_n 0, 1) := rfl
theorem hf99_61 : pi_fetch mc_99 61 = some (.getfield 59, 3) := rfl
theorem hf99_64 : pi_fetch mc_99 64 = some (.ldc2_w 31, 3) := rfl
theorem hf99_67 : pi_fetch mc_99 67 = some (.lmul, 1) := rfl
theorem hf99_68 : pi_fetch mc_99 68 = some (.iload 5, 2) := rfl
theorem hf99_70 : pi_fetch mc_99 70 = some (.bipush 97, 2) := rfl
theorem hf99_72 : pi_fetch mc_99 72 = some (.isub, 1) := rfl
theorem hf99_73 : pi_fetch mc_99 73 = some (.iconst 1, 1) := rfl
theorem hf99_74 : pi_fetch mc_99 74 = some (.iadd, 1) := rfl
theorem hf99_75 : pi_fetch mc_99 75 = some (.i2l, 1) := rfl
theorem hf99_76 : pi_fetch mc_99 76 = some (.ladd, 1) := rfl
theorem hf99_77 : pi_fetch mc_99 77 = some (.putfield 59, 3) := rfl
theorem hf99_80 : pi_fetch mc_99 80 = some (.goto 23, 3) := rfl
theorem hf99_83 : pi_fetch mc_99 83 = some (.iinc 3 1, 3) := rfl
theorem hf99_86 : pi_fetch mc_99 86 = some (.aload_n 0, 1) := rfl
theorem hf99_87 : pi_fetch mc_99 87 = some (.aload_n 0, 1) := rfl
theorem hf99_88 : pi_fetch mc_99 88 = some (.getfield 56, 3) := rfl
theorem hf99_91 : pi_fetch mc_99 91 = some (.bipush 10, 2) := rfl
theorem hf99_93 : pi_fetch mc_99 93 = some (.imul, 1) := rfl
theorem hf99_94 : pi_fetch mc_99 94 = some (.iload 5, 2) := rfl
theorem hf99_96 : pi_fetch mc_99 96 = some (.bipush 48, 2) := rfl
theorem hf99_98 : pi_fetch mc_99 98 = some (.isub, 1) := rfl
theorem hf99_99 : pi_fetch mc_99 99 = some (.iadd, 1) := rfl
theorem hf99_100 : pi_fetch mc_99 100 = some (.putfield 56, 3) := rfl
theorem hf99_103 : pi_fetch mc_99 103 = some (.iinc 4 1, 3) := rfl
theorem hf99_106 : pi_fetch mc_99 106 = some (.goto (-99), 3) := rfl
theorem hf99_109 : pi_fetch mc_99 109 = some (.aload_n 0, 1) := rfl
theorem hf99_110 : pi_fetch mc_99 110 = some (.iload 4, 2) := rfl
theorem hf99_112 : pi_fetch mc_99 112 = some (.putfield 40, 3) := rfl
theorem hf99_115 : pi_fetch mc_99 115 = some (.aload_n 0, 1) := rfl
theorem hf99_116 : pi_fetch mc_99 116 = some (.iconst 1, 1) := rfl
theorem hf99_117 : pi_fetch mc_99 117 = some (.putfield 66, 3) := rfl
theorem hf99_120 : pi_fetch mc_99 120 = some (.iload_n 3, 1) := rfl
theorem hf99_121 : pi_fetch mc_99 121 = some (.ifCond .ne 29, 3) := rfl
theorem hf99_124 : pi_fetch mc_99 124 = some (.iload_n 2, 1) := rfl
theorem hf99_125 : pi_fetch mc_99 125 = some (.bipush 7, 2) := rfl
theorem hf99_127 : pi_fetch mc_99 127 = some (.if_icmp .gt 23, 3) := rfl
theorem hf99_130 : pi_fetch mc_99 130 = some (.aload_n 0, 1) := rfl
theorem hf99_131 : pi_fetch mc_99 131 = some (.iconst 2, 1) := rfl
theorem hf99_132 : pi_fetch mc_99 132 = some (.putfield 66, 3) := rfl
theorem hf99_135 : pi_fetch mc_99 135 = some (.aload_n 0, 1) := rfl
theorem hf99_136 : pi_fetch mc_99 136 = some (.aload_n 0, 1) := rfl
theorem hf99_137 : pi_fetch mc_99 137 = some (.aload_n 0, 1) := rfl
theorem hf99_138 : pi_fetch mc_99 138 = some (.getfield 59, 3) := rfl
theorem hf99_141 : pi_fetch mc_99 141 = some (.invokevirtual 89, 3) := rfl
theorem hf99_144 : pi_fetch mc_99 144 = some (.putfield 63, 3) := rfl
theorem hf99_147 : pi_fetch mc_99 147 = some (.goto 17, 3) := rfl
theorem hf99_150 : pi_fetch mc_99 150 = some (.iload_n 2, 1) := rfl
theorem hf99_151 : pi_fetch mc_99 151 = some (.ifCond .ne 13, 3) := rfl
theorem hf99_154 : pi_fetch mc_99 154 = some (.iload_n 3, 1) := rfl
theorem hf99_155 : pi_fetch mc_99 155 = some (.iconst 2, 1) := rfl
theorem hf99_156 : pi_fetch mc_99 156 = some (.if_icmp .gt 8, 3) := rfl
theorem hf99_159 : pi_fetch mc_99 159 = some (.aload_n 0, 1) := rfl
theorem hf99_160 : pi_fetch mc_99 160 = some (.iconst 3, 1) := rfl
theorem hf99_161 : pi_fetch mc_99 161 = some (.putfield 66, 3) := rfl
theorem hf99_164 : pi_fetch mc_99 164 = some (.return_, 1) := rfl
theorem hf100_0 : pi_fetch mc_100 0 = some (.iconst 0, 1) := rfl
theorem hf100_1 : pi_fetch mc_100 1 = some (.istore_n 3, 1) := rfl
theorem hf100_2 : pi_fetch mc_100 2 = some (.iload_n 3, 1) := rfl
theorem hf100_3 : pi_fetch mc_100 3 = some (.aload_n 0, 1) := rfl
theorem hf100_4 : pi_fetch mc_100 4 = some (.getfield 15, 3) := rfl
theorem hf100_7 : pi_fetch mc_100 7 = some (.arraylength, 1) := rfl
theorem hf100_8 : pi_fetch mc_100 8 = some (.if_icmp .ge 22, 3) := rfl
theorem hf100_11 : pi_fetch mc_100 11 = some (.aload_n 0, 1) := rfl
theorem hf100_12 : pi_fetch mc_100 12 = some (.getfield 15, 3) := rfl
theorem hf100_15 : pi_fetch mc_100 15 = some (.iload_n 3, 1) := rfl
theorem hf100_16 : pi_fetch mc_100 16 = some (.laload, 1) := rfl
theorem hf100_17 : pi_fetch mc_100 17 = some (.lload_n 1, 1) := rfl
theorem hf100_18 : pi_fetch mc_100 18 = some (.lcmp, 1) := rfl
theorem hf100_19 : pi_fetch mc_100 19 = some (.ifCond .ne 5, 3) := rfl
theorem hf100_22 : pi_fetch mc_100 22 = some (.iload_n 3, 1) := rfl
theorem hf100_23 : pi_fetch mc_100 23 = some (.ireturn, 1) := rfl
theorem hf100_24 : pi_fetch mc_100 24 = some (.iinc 3 1, 3) := rfl
theorem hf100_27 : pi_fetch mc_100 27 = some (.goto (-25), 3) := rfl
theorem hf100_30 : pi_fetch mc_100 30 = some (.iconst (-1), 1) := rfl
theorem hf100_31 : pi_fetch mc_100 31 = some (.ireturn, 1) := rfl
/-- a byte of the class's tape -/
def tc_b (w : pi_W) (n : Nat) : Int32 := gv w 2 n &&& (Int16.ofInt 255).toInt32
theorem tc_b_r (w : pi_W) (n : Nat) : 0 ≤ (tc_b w n).toInt ∧ (tc_b w n).toInt ≤ 255 := by
  have h := af_and_r (gv w 2 n) ((Int16.ofInt 255).toInt32) (by decide)
  have e : ((Int16.ofInt 255).toInt32).toInt = 255 := by decide
  rw [e] at h
  exact h
theorem tc_96 {d n : Nat} {w : pi_W} (hC : af_Conf aw_Sh w) (hn : n < 940) : hq_F d sm96 (fun r w' => w' = w ∧ r = some (.int (tc_b w n))) (0, lv_args 0 [.ref 1, .int (Int32.ofNat n)], [], w) := by
  have ti : (Int32.ofNat n).toInt = (n : Int) := hn_t (by omega)
  have g0 : pi_get (lv_args 0 [.ref 1, .int (Int32.ofNat n)]) 0 = some (.ref 1) := rfl
  have g1 : pi_get (lv_args 0 [.ref 1, .int (Int32.ofNat n)]) 1 = some (.int (Int32.ofNat n)) := rfl
  have kc0 : (((Int16.ofInt 255).toInt32)).toInt = 255 := by decide
  have kc1 : ((Int32.ofNat 940)).toInt = 940 := by decide
  have kz := sy_z0
  refine hq_F.st (s' := (1, _, _, _)) hf96_0 rfl rfl rfl (hs_iln g1) ?_
  refine hq_F.st (s' := (4, _, _, _)) hf96_1 rfl rfl rfl (hs_ifn (t := 26) (ci_ltn (by omega)) rfl) ?_
  refine hq_F.st (s' := (5, _, _, _)) hf96_4 rfl rfl rfl (hs_iln g1) ?_
  refine hq_F.st (s' := (6, _, _, _)) hf96_5 rfl rfl rfl (hs_al g0) ?_
  refine hq_F.st (s' := (9, _, _, _)) hf96_6 rfl rfl rfl (hq_gf hC sh_1 sk_9_9 (hq_ref hC sh_1 (b := 2) rfl)) ?_
  refine hq_F.st (s' := (10, _, _, _)) hf96_9 rfl rfl rfl (sy_len hC sh_2) ?_
  refine hq_F.st (s' := (13, _, _, _)) hf96_10 rfl rfl rfl (hs_icn (t := 26) (ci_gen (by omega)) rfl) ?_
  refine hq_F.st (s' := (14, _, _, _)) hf96_13 rfl rfl rfl (hs_al g0) ?_
  refine hq_F.st (s' := (17, _, _, _)) hf96_14 rfl rfl rfl (hq_gf hC sh_1 sk_9_9 (hq_ref hC sh_1 (b := 2) rfl)) ?_
  refine hq_F.st (s' := (18, _, _, _)) hf96_17 rfl rfl rfl (hs_iln g1) ?_
  refine hq_F.st (s' := (19, _, _, _)) hf96_18 rfl rfl rfl (sy_ba hC sh_2 (n := n) (hn_t (by omega)) (by omega)) ?_
  refine hq_F.st (s' := (22, _, _, _)) hf96_19 rfl rfl rfl rfl ?_
  refine hq_F.st (s' := (23, _, _, _)) hf96_22 rfl rfl rfl rfl ?_
  refine hq_F.st (s' := (27, _, _, _)) hf96_23 rfl rfl rfl rfl ?_
  refine hq_F.en hf96_27 rfl (pi_ri _) ?_
  exact ⟨rfl, rfl⟩
theorem tc_101 {d : Nat} {w : pi_W} {x : Int32} : hq_F d sm101 (fun r w' => w' = w ∧ r = some (.int (if 97 ≤ x.toInt ∧ x.toInt ≤ 122 then 1 else 0))) (0, lv_args 0 [.int x], [], w) := by
  have g0 : pi_get (lv_args 0 [.int x]) 0 = some (.int x) := rfl
  have kc0 : (((Int8.ofInt 122).toInt32)).toInt = 122 := by decide
  have kc1 : (((Int8.ofInt 97).toInt32)).toInt = 97 := by decide
  have kc2 : ((Int32.ofInt 0)).toInt = 0 := by decide
  have kc3 : ((Int32.ofInt 1)).toInt = 1 := by decide
  have kz := sy_z0
  refine hq_F.st (s' := (1, _, _, _)) hf101_0 rfl rfl rfl (hs_iln g0) ?_
  refine hq_F.st (s' := (3, _, _, _)) hf101_1 rfl rfl rfl rfl ?_
  by_cases b3 : (x).toInt < 97
  · skip
    refine hq_F.st (s' := (16, _, _, _)) hf101_3 rfl rfl rfl (hs_ic (ci_lt (by omega)) rfl) ?_
    refine hq_F.st (s' := (17, _, _, _)) hf101_16 rfl rfl rfl rfl ?_
    refine hq_F.en hf101_17 rfl rfl ?_
    exact ⟨rfl, by rw [if_neg (by omega)]; rfl⟩
  · skip
    refine hq_F.st (s' := (6, _, _, _)) hf101_3 rfl rfl rfl (hs_icn (t := 16) (ci_ltn (by omega)) rfl) ?_
    refine hq_F.st (s' := (7, _, _, _)) hf101_6 rfl rfl rfl (hs_iln g0) ?_
    refine hq_F.st (s' := (9, _, _, _)) hf101_7 rfl rfl rfl rfl ?_
    by_cases b9 : 122 < (x).toInt
    · skip
      refine hq_F.st (s' := (16, _, _, _)) hf101_9 rfl rfl rfl (hs_ic (ci_gt (by omega)) rfl) ?_
      refine hq_F.st (s' := (17, _, _, _)) hf101_16 rfl rfl rfl rfl ?_
      refine hq_F.en hf101_17 rfl rfl ?_
      exact ⟨rfl, by rw [if_neg (by omega)]; rfl⟩
    · skip
      refine hq_F.st (s' := (12, _, _, _)) hf101_9 rfl rfl rfl (hs_icn (t := 16) (ci_gtn (by omega)) rfl) ?_
      refine hq_F.st (s' := (13, _, _, _)) hf101_12 rfl rfl rfl rfl ?_
      refine hq_F.st (s' := (17, _, _, _)) hf101_13 rfl rfl rfl rfl ?_
      refine hq_F.en hf101_17 rfl rfl ?_
      exact ⟨rfl, by rw [if_pos (by omega)]; rfl⟩
theorem tc_102 {d : Nat} {w : pi_W} {x : Int32} : hq_F d sm102 (fun r w' => w' = w ∧ r = some (.int (if 48 ≤ x.toInt ∧ x.toInt ≤ 57 then 1 else 0))) (0, lv_args 0 [.int x], [], w) := by
  have g0 : pi_get (lv_args 0 [.int x]) 0 = some (.int x) := rfl
  have kc0 : (((Int8.ofInt 48).toInt32)).toInt = 48 := by decide
  have kc1 : (((Int8.ofInt 57).toInt32)).toInt = 57 := by decide
  have kc2 : ((Int32.ofInt 0)).toInt = 0 := by decide
  have kc3 : ((Int32.ofInt 1)).toInt = 1 := by decide
  have kz := sy_z0
  refine hq_F.st (s' := (1, _, _, _)) hf102_0 rfl rfl rfl (hs_iln g0) ?_
  refine hq_F.st (s' := (3, _, _, _)) hf102_1 rfl rfl rfl rfl ?_
  by_cases b3 : (x).toInt < 48
  · skip
    refine hq_F.st (s' := (16, _, _, _)) hf102_3 rfl rfl rfl (hs_ic (ci_lt (by omega)) rfl) ?_
    refine hq_F.st (s' := (17, _, _, _)) hf102_16 rfl rfl rfl rfl ?_
    refine hq_F.en hf102_17 rfl rfl ?_
    exact ⟨rfl, by rw [if_neg (by omega)]; rfl⟩
  · skip
    refine hq_F.st (s' := (6, _, _, _)) hf102_3 rfl rfl rfl (hs_icn (t := 16) (ci_ltn (by omega)) rfl) ?_
    refine hq_F.st (s' := (7, _, _, _)) hf102_6 rfl rfl rfl (hs_iln g0) ?_
    refine hq_F.st (s' := (9, _, _, _)) hf102_7 rfl rfl rfl rfl ?_
    by_cases b9 : 57 < (x).toInt
    · skip
      refine hq_F.st (s' := (16, _, _, _)) hf102_9 rfl rfl rfl (hs_ic (ci_gt (by omega)) rfl) ?_
      refine hq_F.st (s' := (17, _, _, _)) hf102_16 rfl rfl rfl rfl ?_
      refine hq_F.en hf102_17 rfl rfl ?_
      exact ⟨rfl, by rw [if_neg (by omega)]; rfl⟩
    · skip
      refine hq_F.st (s' := (12, _, _, _)) hf102_9 rfl rfl rfl (hs_icn (t := 16) (ci_gtn (by omega)) rfl) ?_
      refine hq_F.st (s' := (13, _, _, _)) hf102_12 rfl rfl rfl rfl ?_
      refine hq_F.st (s' := (17, _, _, _)) hf102_13 rfl rfl rfl rfl ?_
      refine hq_F.en hf102_17 rfl rfl ?_
      exact ⟨rfl, by rw [if_pos (by omega)]; rfl⟩
/-- the class's text: how many bytes, which -/
def tc_P (tp : Nat → Nat) (B : Nat) (w : pi_W) : Prop := (gv w 1 2).toInt = (B : Int) ∧ B ≤ 940 ∧ ∀ n, n < 940 → (tc_b w n).toInt = (tp n : Int)
theorem tc_skip {d B : Nat} {tp : Nat → Nat} {w : pi_W} {Q : Option Value → pi_W → Prop} (hC : af_Conf aw_Sh w) (hP : tc_P tp B w) : ∀ (m i : Nat) {lv : pi_L}, i + m = B → pi_get lv 0 = some (.ref 1) → pi_get lv 1 = some (.int (Int32.ofNat i)) → (∀ lv', pi_get lv' 0 = some (.ref 1) → pi_get lv' 1 = some (.int (Int32.ofNat (tq_sk tp B i))) → hq_F (d + 1) sm98 Q (39, lv', [], w)) → hq_F (d + 1) sm98 Q (5, lv, [], w) := by
  intro m
  induction m with
  | zero =>
    intro i lv hm g0 g1 hQ
    obtain ⟨hB, hB9, htp⟩ := hP
    have ti : (Int32.ofNat i).toInt = (i : Int) := hn_t (by omega)
    refine hq_F.st (s' := (6, _, _, _)) hf98_5 rfl rfl rfl (hs_iln g1) ?_
    refine hq_F.st (s' := (7, _, _, _)) hf98_6 rfl rfl rfl (hs_al g0) ?_
    refine hq_F.st (s' := (10, _, _, _)) hf98_7 rfl rfl rfl (hq_gf hC sh_1 sk_9_33 (sy_v hC (by decide) rfl)) ?_
    refine hq_F.st (s' := (39, _, _, _)) hf98_10 rfl rfl rfl (hs_ic (ci_ge (by omega)) rfl) ?_
    rw [tq_sk_end (by omega)] at hQ
    exact hQ _ g0 g1
  | succ m ih =>
    intro i lv hm g0 g1 hQ
    obtain ⟨hB, hB9, htp⟩ := id hP
    have ti : (Int32.ofNat i).toInt = (i : Int) := hn_t (by omega)
    have tb := htp i (by omega)
    have kc0 : (((Int8.ofInt 10).toInt32)).toInt = 10 := by decide
    have kc1 : (((Int8.ofInt 32).toInt32)).toInt = 32 := by decide
    have kz := sy_z0
    refine hq_F.st (s' := (6, _, _, _)) hf98_5 rfl rfl rfl (hs_iln g1) ?_
    refine hq_F.st (s' := (7, _, _, _)) hf98_6 rfl rfl rfl (hs_al g0) ?_
    refine hq_F.st (s' := (10, _, _, _)) hf98_7 rfl rfl rfl (hq_gf hC sh_1 sk_9_33 (sy_v hC (by decide) rfl)) ?_
    by_cases b10 : ((gv w 1 2)).toInt ≤ (Int32.ofNat i).toInt
    · skip
      refine hq_F.st (s' := (39, _, _, _)) hf98_10 rfl rfl rfl (hs_ic (ci_ge (by omega)) rfl) ?_
      rw [tq_sk_end (by omega)] at hQ
      exact hQ _ g0 g1
    · skip
      refine hq_F.st (s' := (13, _, _, _)) hf98_10 rfl rfl rfl (hs_icn (t := 39) (ci_gen (by omega)) rfl) ?_
      refine hq_F.st (s' := (14, _, _, _)) hf98_13 rfl rfl rfl (hs_al g0) ?_
      refine hq_F.st (s' := (15, _, _, _)) hf98_14 rfl rfl rfl (hs_iln g1) ?_
      refine hq_F.call hf98_15 rfl rfl si_9_52 (by decide) (by decide) sz_96 (sy_argsV hC sh_1 rfl rfl rfl (Nat.le_of_ble_eq_true rfl) rfl (Nat.le_of_ble_eq_true rfl) rfl (by decide)) (tc_96 hC (n := i) (by omega)) (fun _ _ q => by rw [q.1]) ?_
      rintro r15 w ⟨rfl, rfl⟩
      try dsimp only
      refine hq_F.st (s' := (20, _, _, _)) hf98_18 rfl rfl rfl rfl ?_
      by_cases b20 : ((tc_b w i)).toInt = 32
      · skip
        refine hq_F.st (s' := (33, _, _, _)) hf98_20 rfl rfl rfl (hs_ic (ci_eq (by omega)) rfl) ?_
        refine hq_F.st (s' := (36, _, _, _)) hf98_33 rfl rfl rfl (hs_inc g1 (by decide)) ?_
        refine hq_F.st (s' := (5, _, _, _)) hf98_36 rfl rfl rfl rfl ?_
        rw [tq_sk_go (by omega) (by omega)] at hQ
        refine ih (i + 1) (by omega) (hg_nr g0 (by decide)) ?_ hQ
        rw [← hn_s]
        exact (pi_get_set _ _ _)
      · skip
        refine hq_F.st (s' := (23, _, _, _)) hf98_20 rfl rfl rfl (hs_icn (t := 33) (ci_eqn (by omega)) rfl) ?_
        refine hq_F.st (s' := (24, _, _, _)) hf98_23 rfl rfl rfl (hs_al g0) ?_
        refine hq_F.st (s' := (25, _, _, _)) hf98_24 rfl rfl rfl (hs_iln g1) ?_
        refine hq_F.call hf98_25 rfl rfl si_9_52 (by decide) (by decide) sz_96 (sy_argsV hC sh_1 rfl rfl rfl (Nat.le_of_ble_eq_true rfl) rfl (Nat.le_of_ble_eq_true rfl) rfl (by decide)) (tc_96 hC (n := i) (by omega)) (fun _ _ q => by rw [q.1]) ?_
        rintro r25 w ⟨rfl, rfl⟩
        try dsimp only
        refine hq_F.st (s' := (30, _, _, _)) hf98_28 rfl rfl rfl rfl ?_
        by_cases b30 : ¬ ((tc_b w i)).toInt = 10
        · skip
          refine hq_F.st (s' := (39, _, _, _)) hf98_30 rfl rfl rfl (hs_ic (ci_ne (by omega)) rfl) ?_
          rw [tq_sk_stop (by omega)] at hQ
          exact hQ _ g0 g1
        · skip
          refine hq_F.st (s' := (33, _, _, _)) hf98_30 rfl rfl rfl (hs_icn (t := 39) (ci_nen (by omega)) rfl) ?_
          refine hq_F.st (s' := (36, _, _, _)) hf98_33 rfl rfl rfl (hs_inc g1 (by decide)) ?_
          refine hq_F.st (s' := (5, _, _, _)) hf98_36 rfl rfl rfl rfl ?_
          rw [tq_sk_go (by omega) (by omega)] at hQ
          refine ih (i + 1) (by omega) (hg_nr g0 (by decide)) ?_ hQ
          rw [← hn_s]
          exact (pi_get_set _ _ _)
theorem lg_cmp0 (a b : Int64) : (lg_cmp a b).toInt = 0 ↔ a = b := by
  unfold lg_cmp
  constructor
  · intro h
    by_cases e : a = b
    · exact e
    · exfalso
      revert h
      split
      · decide
      · first
        | decide
        | (split
           · rename_i q
             exact absurd (by simpa using q) e
           · decide)
  · intro h
    subst h
    simp
theorem tc_100l {d : Nat} {w : pi_W} {x : Int64} (hC : af_Conf aw_Sh w) : ∀ (m i : Nat) {lv : pi_L}, i + m = 29 → pi_get lv 0 = some (.ref 1) → pi_get lv 1 = some (.long x) → pi_get lv 3 = some (.int (Int32.ofNat i)) → hq_F d sm100 (fun r w' => w' = w ∧ ∃ v : Int32, r = some (.int v) ∧ v.toInt = tq_fi (fun k => decide (gl w 3 k = x)) (29 - i) i) (2, lv, [], w) := by
  intro m
  induction m with
  | zero =>
    intro i lv hm g0 g1 g3
    have ti : (Int32.ofNat i).toInt = (i : Int) := hn_t (by omega)
    have kc0 : ((0 : Int32)).toInt = 0 := by decide
    have kc1 : ((1 : Int32)).toInt = 1 := by decide
    have kc2 : ((Int32.ofInt (-1))).toInt = (-1) := by decide
    have kc3 : ((Int32.ofNat 29)).toInt = 29 := by decide
    have kz := sy_z0
    refine hq_F.st (s' := (3, _, _, _)) hf100_2 rfl rfl rfl (hs_iln g3) ?_
    refine hq_F.st (s' := (4, _, _, _)) hf100_3 rfl rfl rfl (hs_al g0) ?_
    refine hq_F.st (s' := (7, _, _, _)) hf100_4 rfl rfl rfl (hq_gf hC sh_1 sk_9_15 (hq_ref hC sh_1 (b := 3) rfl)) ?_
    refine hq_F.st (s' := (8, _, _, _)) hf100_7 rfl rfl rfl (sy_len hC sh_3) ?_
    refine hq_F.st (s' := (30, _, _, _)) hf100_8 rfl rfl rfl (hs_ic (ci_ge (by omega)) rfl) ?_
    refine hq_F.st (s' := (31, _, _, _)) hf100_30 rfl rfl rfl rfl ?_
    refine hq_F.en hf100_31 rfl rfl ?_
    exact ⟨rfl, _, rfl, by rw [show (29 - i) = 0 by omega]; show (Int32.ofInt (-1)).toInt = -1; decide⟩
  | succ m ih =>
    intro i lv hm g0 g1 g3
    have ti : (Int32.ofNat i).toInt = (i : Int) := hn_t (by omega)
    have kc0 : ((0 : Int32)).toInt = 0 := by decide
    have kc1 : ((1 : Int32)).toInt = 1 := by decide
    have kc2 : ((Int32.ofNat 29)).toInt = 29 := by decide
    have kz := sy_z0
    refine hq_F.st (s' := (3, _, _, _)) hf100_2 rfl rfl rfl (hs_iln g3) ?_
    refine hq_F.st (s' := (4, _, _, _)) hf100_3 rfl rfl rfl (hs_al g0) ?_
    refine hq_F.st (s' := (7, _, _, _)) hf100_4 rfl rfl rfl (hq_gf hC sh_1 sk_9_15 (hq_ref hC sh_1 (b := 3) rfl)) ?_
    refine hq_F.st (s' := (8, _, _, _)) hf100_7 rfl rfl rfl (sy_len hC sh_3) ?_
    refine hq_F.st (s' := (11, _, _, _)) hf100_8 rfl rfl rfl (hs_icn (t := 30) (ci_gen (by omega)) rfl) ?_
    refine hq_F.st (s' := (12, _, _, _)) hf100_11 rfl rfl rfl (hs_al g0) ?_
    refine hq_F.st (s' := (15, _, _, _)) hf100_12 rfl rfl rfl (hq_gf hC sh_1 sk_9_15 (hq_ref hC sh_1 (b := 3) rfl)) ?_
    refine hq_F.st (s' := (16, _, _, _)) hf100_15 rfl rfl rfl (hs_iln g3) ?_
    refine hq_F.st (s' := (17, _, _, _)) hf100_16 rfl rfl rfl (sy_la hC sh_3 (n := i) (hn_t (by omega)) (by omega)) ?_
    refine hq_F.st (s' := (18, _, _, _)) hf100_17 rfl rfl rfl (sy_ll g1) ?_
    refine hq_F.st (s' := (19, _, _, _)) hf100_18 rfl rfl rfl rfl ?_
    by_cases b19 : ¬ ((lg_cmp (gl w 3 i) x)).toInt = 0
    · skip
      refine hq_F.st (s' := (24, _, _, _)) hf100_19 rfl rfl rfl (hs_if (ci_ne (by omega)) rfl) ?_
      refine hq_F.st (s' := (27, _, _, _)) hf100_24 rfl rfl rfl (hs_inc g3 (by decide)) ?_
      refine hq_F.st (s' := (2, _, _, _)) hf100_27 rfl rfl rfl rfl ?_
      rw [show (29 - i) = (29 - (i + 1)) + 1 by omega, tq_fi, if_neg (by rw [decide_eq_true_eq, ← lg_cmp0]; omega)]
      exact ih (i + 1) (by omega) (hg_nr g0 (by decide)) (hg_nl g1 (by decide)) (by rw [← hn_s]; exact (pi_get_set _ _ _))
    · skip
      refine hq_F.st (s' := (22, _, _, _)) hf100_19 rfl rfl rfl (hs_ifn (t := 24) (ci_nen (by omega)) rfl) ?_
      refine hq_F.st (s' := (23, _, _, _)) hf100_22 rfl rfl rfl (hs_iln g3) ?_
      refine hq_F.en hf100_23 rfl (pi_ri _) ?_
      refine ⟨rfl, _, rfl, ?_⟩
      rw [show (29 - i) = (29 - (i + 1)) + 1 by omega, tq_fi, if_pos (by rw [decide_eq_true_eq, ← lg_cmp0]; omega)]
      exact ti
theorem tc_100 {d : Nat} {w : pi_W} {x : Int64} (hC : af_Conf aw_Sh w) : hq_F d sm100 (fun r w' => w' = w ∧ ∃ v : Int32, r = some (.int v) ∧ v.toInt = tq_fi (fun k => decide (gl w 3 k = x)) 29 0) (0, lv_args 0 [.ref 1, .long x], [], w) := by
  have g0 : pi_get (lv_args 0 [.ref 1, .long x]) 0 = some (.ref 1) := rfl
  have g1 : pi_get (lv_args 0 [.ref 1, .long x]) 1 = some (.long x) := rfl
  have kc0 : ((Int32.ofInt 0)).toInt = 0 := by decide
  have kz := sy_z0
  refine hq_F.st (s' := (1, _, _, _)) hf100_0 rfl rfl rfl rfl ?_
  refine hq_F.st (s' := (2, _, _, _)) hf100_1 rfl rfl rfl rfl ?_
  exact tc_100l hC 29 0 (by omega) (hg_nr g0 (by decide)) (hg_nl g1 (by decide)) (pi_get_set _ _ _)
def tq_fw (a : Int64) (c : Nat) : Int64 := if tq_sm c = true then a * 32 + (Int32.ofNat c - (Int8.ofInt 97).toInt32 + Int32.ofInt 1).toInt64 else a
def tq_fv (a : Int32) (c : Nat) : Int32 := if tq_sm c = true then a else a * (Int8.ofInt 10).toInt32 + (Int32.ofNat c - (Int8.ofInt 48).toInt32)
theorem tc_P.fr {tp : Nat → Nat} {B : Nat} {w w' : pi_W} {M : af_M} (h : tc_P tp B w) (hF : af_Fr M w w') (h1 : af_cov M 1 2 2 = false) (h2 : ∀ e ∈ M, e.1 ≠ 2) : tc_P tp B w' := by
  obtain ⟨a, b, c⟩ := h
  refine ⟨by rw [gv_eq (hF 1 2 h1)]; exact a, b, fun n hn => ?_⟩
  unfold tc_b
  rw [gv_eq (hq_cell hF h2)]
  exact c n hn
theorem tq_smt {c : Nat} (h : 97 ≤ c ∧ c ≤ 122) : tq_sm c = true := by simp [tq_sm, h]
theorem tq_smf {c : Nat} (h : ¬ (97 ≤ c ∧ c ≤ 122)) : tq_sm c = false := by
  cases e : tq_sm c with
  | false => rfl
  | true => exact absurd (by simpa [tq_sm] using e) h
theorem tq_dgt {c : Nat} (h : 48 ≤ c ∧ c ≤ 57) : tq_dg c = true := by simp [tq_dg, h]
theorem tq_dgf {c : Nat} (h : ¬ (48 ≤ c ∧ c ≤ 57)) : tq_dg c = false := by
  cases e : tq_dg c with
  | false => rfl
  | true => exact absurd (by simpa [tq_dg] using e) h
theorem tq_ldt {c : Nat} (h : (97 ≤ c ∧ c ≤ 122) ∨ (48 ≤ c ∧ c ≤ 57)) : tq_ld c = true := by
  rcases h with h | h
  · simp [tq_ld, tq_smt h]
  · simp [tq_ld, tq_dgt h]
theorem tq_ldf {c : Nat} (h1 : ¬ (97 ≤ c ∧ c ≤ 122)) (h2 : ¬ (48 ≤ c ∧ c ≤ 57)) : tq_ld c = false := by simp [tq_ld, tq_smf h1, tq_dgf h2]
theorem tc_99l {d B : Nat} {tp : Nat → Nat} {Q : Option Value → pi_W → Prop} : ∀ (m j nl nd : Nat) {w : pi_W} {lv : pi_L}, j + m = B → nl + nd ≤ j → af_Conf aw_Sh w → tc_P tp B w → pi_get lv 0 = some (.ref 1) → pi_get lv 2 = some (.int (Int32.ofNat nl)) → pi_get lv 3 = some (.int (Int32.ofNat nd)) → pi_get lv 4 = some (.int (Int32.ofNat j)) → (∀ (w' : pi_W) (lv' : pi_L), af_Conf aw_Sh w' → af_Fr [(1, 7, 9)] w w' → gl w' 1 8 = (tq_rn tp B j).foldl tq_fw (gl w 1 8) → gv w' 1 7 = (tq_rn tp B j).foldl tq_fv (gv w 1 7) → pi_get lv' 0 = some (.ref 1) → pi_get lv' 2 = some (.int (Int32.ofNat (nl + (tq_rn tp B j).countP tq_sm))) → pi_get lv' 3 = some (.int (Int32.ofNat (nd + (tq_rn tp B j).countP (fun c => !tq_sm c)))) → pi_get lv' 4 = some (.int (Int32.ofNat (j + (tq_rn tp B j).length))) → hq_F (d + 1) sm99 Q (109, lv', [], w')) → hq_F (d + 1) sm99 Q (7, lv, [], w) := by
  intro m
  induction m with
  | zero =>
    intro j nl nd w lv hm hnn hC hP g0 g2 g3 g4 hQ
    obtain ⟨hB, hB9, htp⟩ := id hP
    have tj : (Int32.ofNat j).toInt = (j : Int) := hn_t (by omega)
    have kc0 : ((0 : Int32)).toInt = 0 := by decide
    have kc1 : ((1 : Int32)).toInt = 1 := by decide
    have kz := sy_z0
    refine hq_F.st (s' := (9, _, _, _)) hf99_7 rfl rfl rfl (hs_il g4) ?_
    refine hq_F.st (s' := (10, _, _, _)) hf99_9 rfl rfl rfl (hs_al g0) ?_
    refine hq_F.st (s' := (13, _, _, _)) hf99_10 rfl rfl rfl (hq_gf hC sh_1 sk_9_33 (sy_v hC (by decide) rfl)) ?_
    refine hq_F.st (s' := (109, _, _, _)) hf99_13 rfl rfl rfl (hs_ic (ci_ge (by omega)) rfl) ?_
    have hu : tq_rn tp B j = [] := tq_rn_end (by omega)
    exact hQ w lv hC (af_Fr.rf _ _) (by rw [hu]; rfl) (by rw [hu]; rfl) g0 (by rw [hu]; exact g2) (by rw [hu]; exact g3) (by rw [hu]; exact g4)
  | succ m ih =>
    intro j nl nd w lv hm hnn hC hP g0 g2 g3 g4 hQ
    obtain ⟨hB, hB9, htp⟩ := id hP
    have tj : (Int32.ofNat j).toInt = (j : Int) := hn_t (by omega)
    have tb := htp j (by omega)
    have tr := tc_b_r w j
    have kc0 : (((Int8.ofInt 10).toInt32)).toInt = 10 := by decide
    have kc1 : (((Int8.ofInt 48).toInt32)).toInt = 48 := by decide
    have kc2 : (((Int8.ofInt 97).toInt32)).toInt = 97 := by decide
    have kc3 : ((0 : Int32)).toInt = 0 := by decide
    have kc4 : ((1 : Int32)).toInt = 1 := by decide
    have kc5 : ((Int32.ofInt 1)).toInt = 1 := by decide
    have kz := sy_z0
    refine hq_F.st (s' := (9, _, _, _)) hf99_7 rfl rfl rfl (hs_il g4) ?_
    refine hq_F.st (s' := (10, _, _, _)) hf99_9 rfl rfl rfl (hs_al g0) ?_
    refine hq_F.st (s' := (13, _, _, _)) hf99_10 rfl rfl rfl (hq_gf hC sh_1 sk_9_33 (sy_v hC (by decide) rfl)) ?_
    by_cases b13 : ((gv w 1 2)).toInt ≤ (Int32.ofNat j).toInt
    · skip
      refine hq_F.st (s' := (109, _, _, _)) hf99_13 rfl rfl rfl (hs_ic (ci_ge (by omega)) rfl) ?_
      have hu : tq_rn tp B j = [] := tq_rn_end (by omega)
      exact hQ w lv hC (af_Fr.rf _ _) (by rw [hu]; rfl) (by rw [hu]; rfl) g0 (by rw [hu]; exact g2) (by rw [hu]; exact g3) (by rw [hu]; exact g4)
    · skip
      refine hq_F.st (s' := (16, _, _, _)) hf99_13 rfl rfl rfl (hs_icn (t := 109) (ci_gen (by omega)) rfl) ?_
      refine hq_F.st (s' := (17, _, _, _)) hf99_16 rfl rfl rfl (hs_al g0) ?_
      refine hq_F.st (s' := (19, _, _, _)) hf99_17 rfl rfl rfl (hs_il g4) ?_
      refine hq_F.call hf99_19 rfl rfl si_9_52 (by decide) (by decide) sz_96 (sy_argsV hC sh_1 rfl rfl rfl (Nat.le_of_ble_eq_true rfl) rfl (Nat.le_of_ble_eq_true rfl) rfl (by decide)) (tc_96 hC (n := j) (by omega)) (fun _ _ q => by rw [q.1]) ?_
      rintro r19 w ⟨rfl, rfl⟩
      try dsimp only
      refine hq_F.call hf99_22 rfl rfl si_9_78 (by decide) (by decide) sz_101 (sy_argsS rfl rfl rfl (Nat.le_of_ble_eq_true rfl) (by decide) rfl (Nat.le_of_ble_eq_true rfl) (by decide)) (tc_101 (x := (tc_b w j))) (fun _ _ q => by rw [q.1]) ?_
      rintro r22 w ⟨rfl, rfl⟩
      try dsimp only
      by_cases l22 : 97 ≤ ((tc_b w j)).toInt ∧ ((tc_b w j)).toInt ≤ 122
      · rw [if_pos l22]
        refine hq_F.st (s' := (40, _, _, _)) hf99_25 rfl rfl rfl (hs_if (ci_ne (by omega)) rfl) ?_
        refine hq_F.st (s' := (41, _, _, _)) hf99_40 rfl rfl rfl (hs_al g0) ?_
        refine hq_F.st (s' := (43, _, _, _)) hf99_41 rfl rfl rfl (hs_il g4) ?_
        refine hq_F.call hf99_43 rfl rfl si_9_52 (by decide) (by decide) sz_96 (sy_argsV hC sh_1 rfl rfl rfl (Nat.le_of_ble_eq_true rfl) rfl (Nat.le_of_ble_eq_true rfl) rfl (by decide)) (tc_96 hC (n := j) (by omega)) (fun _ _ q => by rw [q.1]) ?_
        rintro r43 w ⟨rfl, rfl⟩
        try dsimp only
        refine hq_F.st (s' := (48, _, _, _)) hf99_46 rfl rfl rfl (sy_is (by decide)) ?_
        refine hq_F.st (s' := (50, _, _, _)) hf99_48 rfl rfl rfl (hs_il (pi_get_set _ _ _)) ?_
        refine hq_F.call hf99_50 rfl rfl si_9_78 (by decide) (by decide) sz_101 (sy_argsS rfl rfl rfl (Nat.le_of_ble_eq_true rfl) (by decide) rfl (Nat.le_of_ble_eq_true rfl) (by decide)) (tc_101 (x := (tc_b w j))) (fun _ _ q => by rw [q.1]) ?_
        rintro r50 w ⟨rfl, rfl⟩
        try dsimp only
        by_cases l50 : 97 ≤ ((tc_b w j)).toInt ∧ ((tc_b w j)).toInt ≤ 122
        · rw [if_pos l50]
          refine hq_F.st (s' := (56, _, _, _)) hf99_53 rfl rfl rfl (hs_ifn (t := 83) (ci_eqn (by omega)) rfl) ?_
          refine hq_F.st (s' := (59, _, _, _)) hf99_56 rfl rfl rfl (hs_inc (hg_ne g2 (by decide)) (by decide)) ?_
          refine hq_F.st (s' := (60, _, _, _)) hf99_59 rfl rfl rfl (hs_al (hg_nr (hg_nr g0 (by decide)) (by decide))) ?_
          refine hq_F.st (s' := (61, _, _, _)) hf99_60 rfl rfl rfl (hs_al (hg_nr (hg_nr g0 (by decide)) (by decide))) ?_
          refine hq_F.st (s' := (64, _, _, _)) hf99_61 rfl rfl rfl (hq_gf hC sh_1 sk_9_59 (sy_vl hC sh_1 rfl)) ?_
          refine hq_F.st (s' := (67, _, _, _)) hf99_64 rfl rfl rfl rfl ?_
          refine hq_F.st (s' := (68, _, _, _)) hf99_67 rfl rfl rfl rfl ?_
          refine hq_F.st (s' := (70, _, _, _)) hf99_68 rfl rfl rfl (hs_il (hg_ne (pi_get_set _ _ _) (by decide))) ?_
          refine hq_F.st (s' := (72, _, _, _)) hf99_70 rfl rfl rfl rfl ?_
          refine hq_F.st (s' := (73, _, _, _)) hf99_72 rfl rfl rfl rfl ?_
          refine hq_F.st (s' := (74, _, _, _)) hf99_73 rfl rfl rfl rfl ?_
          refine hq_F.st (s' := (75, _, _, _)) hf99_74 rfl rfl rfl rfl ?_
          refine hq_F.st (s' := (76, _, _, _)) hf99_75 rfl rfl rfl rfl ?_
          refine hq_F.st (s' := (77, _, _, _)) hf99_76 rfl rfl rfl rfl ?_
          refine sy_pl hf99_77 hC sh_1 sk_9_59 rfl rfl rfl rfl (fun w1 hC1 hw1 => ?_)
          refine hq_F.st (s' := (103, _, _, _)) hf99_80 rfl rfl rfl rfl ?_
          refine hq_F.st (s' := (106, _, _, _)) hf99_103 rfl rfl rfl (hs_inc (hg_ne (hg_ne g4 (by decide)) (by decide)) (by decide)) ?_
          refine hq_F.st (s' := (7, _, _, _)) hf99_106 rfl rfl rfl rfl ?_
          have hu : tq_rn tp B j = tp j :: tq_rn tp B (j + 1) := tq_rn_go (by omega) (tq_ldt (by omega))
          have hs : tq_sm (tp j) = true := tq_smt (by omega)
          have hx : tc_b w j = Int32.ofNat (tp j) := hn_e (by omega) (by omega)
          refine ih (j + 1) (nl + 1) nd (by omega) (by omega) hC1 (hP.fr (wpF hw1) (by decide) (by decide)) (hg_nr (hg_nr (hg_nr g0 (by decide)) (by decide)) (by decide)) (by rw [← hn_s]; exact (hg_ne (pi_get_set _ _ _) (by decide))) (hg_ne (hg_ne (hg_ne g3 (by decide)) (by decide)) (by decide)) (by rw [← hn_s]; exact (pi_get_set _ _ _)) (fun w2 lv2 k1 k2 k3 k4 k5 k6 k7 k8 => ?_)
          refine hQ w2 lv2 k1 (((wpF hw1).cov (by decide)).tr k2) ?_ ?_ k5 ?_ ?_ ?_
          · rw [k3, hu, List.foldl_cons, wpl hw1, if_pos ⟨rfl, rfl⟩, hx]
            simp only [tq_fw, hs, if_true]
            try rfl
          · rw [k4, hu, List.foldl_cons, wplv hw1, if_neg (by decide)]
            simp only [tq_fv, hs, if_true]
          · rw [hu, List.countP_cons_of_pos hs, show nl + ((tq_rn tp B (j + 1)).countP tq_sm + 1) = nl + 1 + (tq_rn tp B (j + 1)).countP tq_sm by omega]
            exact k6
          · rw [hu, List.countP_cons_of_neg (by rw [hs]; decide)]
            exact k7
          · rw [hu, List.length_cons, show j + ((tq_rn tp B (j + 1)).length + 1) = j + 1 + (tq_rn tp B (j + 1)).length by omega]
            exact k8
        · rw [if_neg l50]
          refine hq_F.st (s' := (83, _, _, _)) hf99_53 rfl rfl rfl (hs_if (ci_eq (by omega)) rfl) ?_
          refine hq_F.st (s' := (86, _, _, _)) hf99_83 rfl rfl rfl (hs_inc (hg_ne g3 (by decide)) (by decide)) ?_
          refine hq_F.st (s' := (87, _, _, _)) hf99_86 rfl rfl rfl (hs_al (hg_nr (hg_nr g0 (by decide)) (by decide))) ?_
          refine hq_F.st (s' := (88, _, _, _)) hf99_87 rfl rfl rfl (hs_al (hg_nr (hg_nr g0 (by decide)) (by decide))) ?_
          refine hq_F.st (s' := (91, _, _, _)) hf99_88 rfl rfl rfl (hq_gf hC sh_1 sk_9_56 (sy_v hC (by decide) rfl)) ?_
          refine hq_F.st (s' := (93, _, _, _)) hf99_91 rfl rfl rfl rfl ?_
          refine hq_F.st (s' := (94, _, _, _)) hf99_93 rfl rfl rfl rfl ?_
          refine hq_F.st (s' := (96, _, _, _)) hf99_94 rfl rfl rfl (hs_il (hg_ne (pi_get_set _ _ _) (by decide))) ?_
          refine hq_F.st (s' := (98, _, _, _)) hf99_96 rfl rfl rfl rfl ?_
          refine hq_F.st (s' := (99, _, _, _)) hf99_98 rfl rfl rfl rfl ?_
          refine hq_F.st (s' := (100, _, _, _)) hf99_99 rfl rfl rfl rfl ?_
          refine sy_pf hf99_100 hC sh_1 sk_9_56 (lo := -2147483648) (hi := 2147483647) rfl (af_i32 _) rfl rfl rfl (fun w2 hC2 hw2 => ?_)
          refine hq_F.st (s' := (106, _, _, _)) hf99_103 rfl rfl rfl (hs_inc (hg_ne (hg_ne g4 (by decide)) (by decide)) (by decide)) ?_
          refine hq_F.st (s' := (7, _, _, _)) hf99_106 rfl rfl rfl rfl ?_
          have hu : tq_rn tp B j = tp j :: tq_rn tp B (j + 1) := tq_rn_go (by omega) (tq_ldt (by omega))
          have hs : tq_sm (tp j) = false := tq_smf (by omega)
          have hx : tc_b w j = Int32.ofNat (tp j) := hn_e (by omega) (by omega)
          refine ih (j + 1) nl (nd + 1) (by omega) (by omega) hC2 (hP.fr (wpF hw2) (by decide) (by decide)) (hg_nr (hg_nr (hg_nr g0 (by decide)) (by decide)) (by decide)) (hg_ne (hg_ne (hg_ne g2 (by decide)) (by decide)) (by decide)) (by rw [← hn_s]; exact (hg_ne (pi_get_set _ _ _) (by decide))) (by rw [← hn_s]; exact (pi_get_set _ _ _)) (fun w2 lv2 k1 k2 k3 k4 k5 k6 k7 k8 => ?_)
          refine hQ w2 lv2 k1 (((wpF hw2).cov (by decide)).tr k2) ?_ ?_ k5 ?_ ?_ ?_
          · rw [k3, hu, List.foldl_cons, wpvl hw2, if_neg (by decide)]
            simp only [tq_fw, hs]
            try rfl
          · rw [k4, hu, List.foldl_cons, wpv hw2, if_pos ⟨rfl, rfl⟩, hx]
            simp only [tq_fv, hs]
            try rfl
          · rw [hu, List.countP_cons_of_neg (by rw [hs]; decide)]
            exact k6
          · rw [hu, List.countP_cons_of_pos (by rw [hs]; rfl), show nd + ((tq_rn tp B (j + 1)).countP (fun c => !tq_sm c) + 1) = nd + 1 + (tq_rn tp B (j + 1)).countP (fun c => !tq_sm c) by omega]
            exact k7
          · rw [hu, List.length_cons, show j + ((tq_rn tp B (j + 1)).length + 1) = j + 1 + (tq_rn tp B (j + 1)).length by omega]
            exact k8
      · rw [if_neg l22]
        refine hq_F.st (s' := (28, _, _, _)) hf99_25 rfl rfl rfl (hs_ifn (t := 40) (ci_nen (by omega)) rfl) ?_
        refine hq_F.st (s' := (29, _, _, _)) hf99_28 rfl rfl rfl (hs_al g0) ?_
        refine hq_F.st (s' := (31, _, _, _)) hf99_29 rfl rfl rfl (hs_il g4) ?_
        refine hq_F.call hf99_31 rfl rfl si_9_52 (by decide) (by decide) sz_96 (sy_argsV hC sh_1 rfl rfl rfl (Nat.le_of_ble_eq_true rfl) rfl (Nat.le_of_ble_eq_true rfl) rfl (by decide)) (tc_96 hC (n := j) (by omega)) (fun _ _ q => by rw [q.1]) ?_
        rintro r31 w ⟨rfl, rfl⟩
        try dsimp only
        refine hq_F.call hf99_34 rfl rfl si_9_82 (by decide) (by decide) sz_102 (sy_argsS rfl rfl rfl (Nat.le_of_ble_eq_true rfl) (by decide) rfl (Nat.le_of_ble_eq_true rfl) (by decide)) (tc_102 (x := (tc_b w j))) (fun _ _ q => by rw [q.1]) ?_
        rintro r34 w ⟨rfl, rfl⟩
        try dsimp only
        by_cases d34 : 48 ≤ ((tc_b w j)).toInt ∧ ((tc_b w j)).toInt ≤ 57
        · rw [if_pos d34]
          refine hq_F.st (s' := (40, _, _, _)) hf99_37 rfl rfl rfl (hs_ifn (t := 109) (ci_eqn (by omega)) rfl) ?_
          refine hq_F.st (s' := (41, _, _, _)) hf99_40 rfl rfl rfl (hs_al g0) ?_
          refine hq_F.st (s' := (43, _, _, _)) hf99_41 rfl rfl rfl (hs_il g4) ?_
          refine hq_F.call hf99_43 rfl rfl si_9_52 (by decide) (by decide) sz_96 (sy_argsV hC sh_1 rfl rfl rfl (Nat.le_of_ble_eq_true rfl) rfl (Nat.le_of_ble_eq_true rfl) rfl (by decide)) (tc_96 hC (n := j) (by omega)) (fun _ _ q => by rw [q.1]) ?_
          rintro r43 w ⟨rfl, rfl⟩
          try dsimp only
          refine hq_F.st (s' := (48, _, _, _)) hf99_46 rfl rfl rfl (sy_is (by decide)) ?_
          refine hq_F.st (s' := (50, _, _, _)) hf99_48 rfl rfl rfl (hs_il (pi_get_set _ _ _)) ?_
          refine hq_F.call hf99_50 rfl rfl si_9_78 (by decide) (by decide) sz_101 (sy_argsS rfl rfl rfl (Nat.le_of_ble_eq_true rfl) (by decide) rfl (Nat.le_of_ble_eq_true rfl) (by decide)) (tc_101 (x := (tc_b w j))) (fun _ _ q => by rw [q.1]) ?_
          rintro r50 w ⟨rfl, rfl⟩
          try dsimp only
          by_cases l50 : 97 ≤ ((tc_b w j)).toInt ∧ ((tc_b w j)).toInt ≤ 122
          · rw [if_pos l50]
            refine hq_F.st (s' := (56, _, _, _)) hf99_53 rfl rfl rfl (hs_ifn (t := 83) (ci_eqn (by omega)) rfl) ?_
            refine hq_F.st (s' := (59, _, _, _)) hf99_56 rfl rfl rfl (hs_inc (hg_ne g2 (by decide)) (by decide)) ?_
            refine hq_F.st (s' := (60, _, _, _)) hf99_59 rfl rfl rfl (hs_al (hg_nr (hg_nr g0 (by decide)) (by decide))) ?_
            refine hq_F.st (s' := (61, _, _, _)) hf99_60 rfl rfl rfl (hs_al (hg_nr (hg_nr g0 (by decide)) (by decide))) ?_
            refine hq_F.st (s' := (64, _, _, _)) hf99_61 rfl rfl rfl (hq_gf hC sh_1 sk_9_59 (sy_vl hC sh_1 rfl)) ?_
            refine hq_F.st (s' := (67, _, _, _)) hf99_64 rfl rfl rfl rfl ?_
            refine hq_F.st (s' := (68, _, _, _)) hf99_67 rfl rfl rfl rfl ?_
            refine hq_F.st (s' := (70, _, _, _)) hf99_68 rfl rfl rfl (hs_il (hg_ne (pi_get_set _ _ _) (by decide))) ?_
            refine hq_F.st (s' := (72, _, _, _)) hf99_70 rfl rfl rfl rfl ?_
            refine hq_F.st (s' := (73, _, _, _)) hf99_72 rfl rfl rfl rfl ?_
            refine hq_F.st (s' := (74, _, _, _)) hf99_73 rfl rfl rfl rfl ?_
            refine hq_F.st (s' := (75, _, _, _)) hf99_74 rfl rfl rfl rfl ?_
            refine hq_F.st (s' := (76, _, _, _)) hf99_75 rfl rfl rfl rfl ?_
            refine hq_F.st (s' := (77, _, _, _)) hf99_76 rfl rfl rfl rfl ?_
            refine sy_pl hf99_77 hC sh_1 sk_9_59 rfl rfl rfl rfl (fun w3 hC3 hw3 => ?_)
            refine hq_F.st (s' := (103, _, _, _)) hf99_80 rfl rfl rfl rfl ?_
            refine hq_F.st (s' := (106, _, _, _)) hf99_103 rfl rfl rfl (hs_inc (hg_ne (hg_ne g4 (by decide)) (by decide)) (by decide)) ?_
            refine hq_F.st (s' := (7, _, _, _)) hf99_106 rfl rfl rfl rfl ?_
            have hu : tq_rn tp B j = tp j :: tq_rn tp B (j + 1) := tq_rn_go (by omega) (tq_ldt (by omega))
            have hs : tq_sm (tp j) = true := tq_smt (by omega)
            have hx : tc_b w j = Int32.ofNat (tp j) := hn_e (by omega) (by omega)
            refine ih (j + 1) (nl + 1) nd (by omega) (by omega) hC3 (hP.fr (wpF hw3) (by decide) (by decide)) (hg_nr (hg_nr (hg_nr g0 (by decide)) (by decide)) (by decide)) (by rw [← hn_s]; exact (hg_ne (pi_get_set _ _ _) (by decide))) (hg_ne (hg_ne (hg_ne g3 (by decide)) (by decide)) (by decide)) (by rw [← hn_s]; exact (pi_get_set _ _ _)) (fun w2 lv2 k1 k2 k3 k4 k5 k6 k7 k8 => ?_)
            refine hQ w2 lv2 k1 (((wpF hw3).cov (by decide)).tr k2) ?_ ?_ k5 ?_ ?_ ?_
            · rw [k3, hu, List.foldl_cons, wpl hw3, if_pos ⟨rfl, rfl⟩, hx]
              simp only [tq_fw, hs, if_true]
              try rfl
            · rw [k4, hu, List.foldl_cons, wplv hw3, if_neg (by decide)]
              simp only [tq_fv, hs, if_true]
            · rw [hu, List.countP_cons_of_pos hs, show nl + ((tq_rn tp B (j + 1)).countP tq_sm + 1) = nl + 1 + (tq_rn tp B (j + 1)).countP tq_sm by omega]
              exact k6
            · rw [hu, List.countP_cons_of_neg (by rw [hs]; decide)]
              exact k7
            · rw [hu, List.length_cons, show j + ((tq_rn tp B (j + 1)).length + 1) = j + 1 + (tq_rn tp B (j + 1)).length by omega]
              exact k8
          · rw [if_neg l50]
            refine hq_F.st (s' := (83, _, _, _)) hf99_53 rfl rfl rfl (hs_if (ci_eq (by omega)) rfl) ?_
            refine hq_F.st (s' := (86, _, _, _)) hf99_83 rfl rfl rfl (hs_inc (hg_ne g3 (by decide)) (by decide)) ?_
            refine hq_F.st (s' := (87, _, _, _)) hf99_86 rfl rfl rfl (hs_al (hg_nr (hg_nr g0 (by decide)) (by decide))) ?_
            refine hq_F.st (s' := (88, _, _, _)) hf99_87 rfl rfl rfl (hs_al (hg_nr (hg_nr g0 (by decide)) (by decide))) ?_
            refine hq_F.st (s' := (91, _, _, _)) hf99_88 rfl rfl rfl (hq_gf hC sh_1 sk_9_56 (sy_v hC (by decide) rfl)) ?_
            refine hq_F.st (s' := (93, _, _, _)) hf99_91 rfl rfl rfl rfl ?_
            refine hq_F.st (s' := (94, _, _, _)) hf99_93 rfl rfl rfl rfl ?_
            refine hq_F.st (s' := (96, _, _, _)) hf99_94 rfl rfl rfl (hs_il (hg_ne (pi_get_set _ _ _) (by decide))) ?_
            refine hq_F.st (s' := (98, _, _, _)) hf99_96 rfl rfl rfl rfl ?_
            refine hq_F.st (s' := (99, _, _, _)) hf99_98 rfl rfl rfl rfl ?_
            refine hq_F.st (s' := (100, _, _, _)) hf99_99 rfl rfl rfl rfl ?_
            refine sy_pf hf99_100 hC sh_1 sk_9_56 (lo := -2147483648) (hi := 2147483647) rfl (af_i32 _) rfl rfl rfl (fun w4 hC4 hw4 => ?_)
            refine hq_F.st (s' := (106, _, _, _)) hf99_103 rfl rfl rfl (hs_inc (hg_ne (hg_ne g4 (by decide)) (by decide)) (by decide)) ?_
            refine hq_F.st (s' := (7, _, _, _)) hf99_106 rfl rfl rfl rfl ?_
            have hu : tq_rn tp B j = tp j :: tq_rn tp B (j + 1) := tq_rn_go (by omega) (tq_ldt (by omega))
            have hs : tq_sm (tp j) = false := tq_smf (by omega)
            have hx : tc_b w j = Int32.ofNat (tp j) := hn_e (by omega) (by omega)
            refine ih (j + 1) nl (nd + 1) (by omega) (by omega) hC4 (hP.fr (wpF hw4) (by decide) (by decide)) (hg_nr (hg_nr (hg_nr g0 (by decide)) (by decide)) (by decide)) (hg_ne (hg_ne (hg_ne g2 (by decide)) (by decide)) (by decide)) (by rw [← hn_s]; exact (hg_ne (pi_get_set _ _ _) (by decide))) (by rw [← hn_s]; exact (pi_get_set _ _ _)) (fun w2 lv2 k1 k2 k3 k4 k5 k6 k7 k8 => ?_)
            refine hQ w2 lv2 k1 (((wpF hw4).cov (by decide)).tr k2) ?_ ?_ k5 ?_ ?_ ?_
            · rw [k3, hu, List.foldl_cons, wpvl hw4, if_neg (by decide)]
              simp only [tq_fw, hs]
              try rfl
            · rw [k4, hu, List.foldl_cons, wpv hw4, if_pos ⟨rfl, rfl⟩, hx]
              simp only [tq_fv, hs]
              try rfl
            · rw [hu, List.countP_cons_of_neg (by rw [hs]; decide)]
              exact k6
            · rw [hu, List.countP_cons_of_pos (by rw [hs]; rfl), show nd + ((tq_rn tp B (j + 1)).countP (fun c => !tq_sm c) + 1) = nd + 1 + (tq_rn tp B (j + 1)).countP (fun c => !tq_sm c) by omega]
              exact k7
            · rw [hu, List.length_cons, show j + ((tq_rn tp B (j + 1)).length + 1) = j + 1 + (tq_rn tp B (j + 1)).length by omega]
              exact k8
        · rw [if_neg d34]
          refine hq_F.st (s' := (109, _, _, _)) hf99_37 rfl rfl rfl (hs_if (ci_eq (by omega)) rfl) ?_
          have hu : tq_rn tp B j = [] := tq_rn_stop (tq_ldf (by omega) (by omega))
          exact hQ w lv hC (af_Fr.rf _ _) (by rw [hu]; rfl) (by rw [hu]; rfl) g0 (by rw [hu]; exact g2) (by rw [hu]; exact g3) (by rw [hu]; exact g4)
/-- what a run of letters and digits u, from i on, leaves in the class -/
def tc_R (w : pi_W) (u : List Nat) (i : Nat) (w' : pi_W) : Prop := (gv w' 1 4).toInt = ((i + u.length : Nat) : Int) ∧
  (u.countP (fun c => !tq_sm c) = 0 ∧ u.countP tq_sm ≤ 7 → (gv w' 1 5).toInt = 2 ∧ gl w' 1 8 = u.foldl tq_fw (gl w 1 8) ∧ (gv w' 1 9).toInt = tq_fi (fun k => decide (gl w 3 k = u.foldl tq_fw (gl w 1 8))) 29 0) ∧
  (¬ (u.countP (fun c => !tq_sm c) = 0 ∧ u.countP tq_sm ≤ 7) → gv w' 1 9 = gv w 1 9 ∧
    (u.countP tq_sm = 0 ∧ u.countP (fun c => !tq_sm c) ≤ 2 → (gv w' 1 5).toInt = 3 ∧ gv w' 1 7 = u.foldl tq_fv (gv w 1 7)) ∧
    (¬ (u.countP tq_sm = 0 ∧ u.countP (fun c => !tq_sm c) ≤ 2) → (gv w' 1 5).toInt = 1))
theorem tc_99 {d B i : Nat} {tp : Nat → Nat} {w : pi_W} (hC : af_Conf aw_Sh w) (hP : tc_P tp B w) (hi : i ≤ B) : hq_F (d + 1) sm99 (fun r w' => r = none ∧ af_Conf aw_Sh w' ∧ af_Fr [(1, 4, 6), (1, 7, 10)] w w' ∧ tc_R w (tq_rn tp B i) i w') (0, lv_args 0 [.ref 1, .int (Int32.ofNat i)], [], w) := by
  have g0 : pi_get (lv_args 0 [.ref 1, .int (Int32.ofNat i)]) 0 = some (.ref 1) := rfl
  have g1 : pi_get (lv_args 0 [.ref 1, .int (Int32.ofNat i)]) 1 = some (.int (Int32.ofNat i)) := rfl
  have hB9 := hP.2.1
  refine hq_F.st (s' := (1, _, _, _)) hf99_0 rfl rfl rfl rfl ?_
  refine hq_F.st (s' := (2, _, _, _)) hf99_1 rfl rfl rfl rfl ?_
  refine hq_F.st (s' := (3, _, _, _)) hf99_2 rfl rfl rfl rfl ?_
  refine hq_F.st (s' := (4, _, _, _)) hf99_3 rfl rfl rfl rfl ?_
  refine hq_F.st (s' := (5, _, _, _)) hf99_4 rfl rfl rfl (hs_iln (hg_ne (hg_ne g1 (by decide)) (by decide))) ?_
  refine hq_F.st (s' := (7, _, _, _)) hf99_5 rfl rfl rfl (sy_is (by decide)) ?_
  refine tc_99l (d := d) (B - i) i 0 0 (by omega) (by omega) hC hP (hg_nr (hg_nr (hg_nr g0 (by decide)) (by decide)) (by decide)) (hg_ne (hg_ne (pi_get_set _ _ _) (by decide)) (by decide)) (hg_ne (pi_get_set _ _ _) (by decide)) (pi_get_set _ _ _) ?_
  intro wa lv k1 k2 k3 k4 g0 g2 g3 g4
  have hlen := tq_rn_len (tp := tp) (B := B) (i := i) hi
  have hcn : (tq_rn tp B i).countP tq_sm + (tq_rn tp B i).countP (fun c => !tq_sm c) = (tq_rn tp B i).length := by
    have := List.length_eq_countP_add_countP tq_sm (l := tq_rn tp B i)
    simp only [Bool.not_eq_true] at this
    rw [this]
    congr 1
    refine List.countP_congr (fun x _ => ?_)
    cases tq_sm x <;> simp
  rw [Nat.zero_add] at g2 g3
  generalize hnl : (tq_rn tp B i).countP tq_sm = nl at *
  generalize hnd : (tq_rn tp B i).countP (fun c => !tq_sm c) = nd at *
  generalize hnj : i + (tq_rn tp B i).length = nj at *
  have tnl : (Int32.ofNat nl).toInt = (nl : Int) := hn_t (by omega)
  have tnd : (Int32.ofNat nd).toInt = (nd : Int) := hn_t (by omega)
  unfold tc_R
  rw [hnl, hnd, hnj]
  have kc0 : (((Int8.ofInt 7).toInt32)).toInt = 7 := by decide
  have kc1 : ((0 : Int32)).toInt = 0 := by decide
  have kc2 : ((1 : Int32)).toInt = 1 := by decide
  have kc3 : ((Int32.ofInt 1)).toInt = 1 := by decide
  have kc4 : ((Int32.ofInt 2)).toInt = 2 := by decide
  have kc5 : ((Int32.ofInt 3)).toInt = 3 := by decide
  have kz := sy_z0
  refine hq_F.st (s' := (110, _, _, _)) hf99_109 rfl rfl rfl (hs_al g0) ?_
  refine hq_F.st (s' := (112, _, _, _)) hf99_110 rfl rfl rfl (hs_il g4) ?_
  refine sy_pf hf99_112 k1 sh_1 sk_9_40 (lo := -2147483648) (hi := 2147483647) rfl (af_i32 _) rfl rfl rfl (fun w1 hC1 hw1 => ?_)
  refine hq_F.st (s' := (116, _, _, _)) hf99_115 rfl rfl rfl (hs_al g0) ?_
  refine hq_F.st (s' := (117, _, _, _)) hf99_116 rfl rfl rfl rfl ?_
  refine sy_pf hf99_117 hC1 sh_1 sk_9_66 (lo := -2147483648) (hi := 2147483647) rfl (af_i32 _) rfl rfl rfl (fun w2 hC2 hw2 => ?_)
  refine hq_F.st (s' := (121, _, _, _)) hf99_120 rfl rfl rfl (hs_iln g3) ?_
  by_cases b121 : ¬ (Int32.ofNat nd).toInt = 0
  · skip
    refine hq_F.st (s' := (150, _, _, _)) hf99_121 rfl rfl rfl (hs_if (ci_ne (by omega)) rfl) ?_
    refine hq_F.st (s' := (151, _, _, _)) hf99_150 rfl rfl rfl (hs_iln g2) ?_
    by_cases b151 : ¬ (Int32.ofNat nl).toInt = 0
    · skip
      refine hq_F.st (s' := (164, _, _, _)) hf99_151 rfl rfl rfl (hs_if (ci_ne (by omega)) rfl) ?_
      refine hq_F.en hf99_164 rfl rfl ?_
      refine ⟨rfl, hC2, (((k2).cov (by decide)).tr (((wpF hw1).cov (by decide)).tr ((wpF hw2).cov (by decide)))), ?_, ?_, ?_⟩
      · rw [wpv hw2, if_neg (by decide), wpv hw1, if_pos ⟨rfl, rfl⟩]
        exact hn_t (by omega)
      · intro h
        exact absurd h (by omega)
      · intro _
        refine ⟨by rw [wpv hw2, if_neg (by decide), wpv hw1, if_neg (by decide), gv_eq (k2 1 9 (by decide))], ?_, ?_⟩
        · intro h
          exact absurd h (by omega)
        · intro _
          rw [wpv hw2, if_pos ⟨rfl, rfl⟩]
          decide
    · skip
      refine hq_F.st (s' := (154, _, _, _)) hf99_151 rfl rfl rfl (hs_ifn (t := 164) (ci_nen (by omega)) rfl) ?_
      refine hq_F.st (s' := (155, _, _, _)) hf99_154 rfl rfl rfl (hs_iln g3) ?_
      refine hq_F.st (s' := (156, _, _, _)) hf99_155 rfl rfl rfl rfl ?_
      by_cases b156 : 2 < (Int32.ofNat nd).toInt
      · skip
        refine hq_F.st (s' := (164, _, _, _)) hf99_156 rfl rfl rfl (hs_ic (ci_gt (by omega)) rfl) ?_
        refine hq_F.en hf99_164 rfl rfl ?_
        refine ⟨rfl, hC2, (((k2).cov (by decide)).tr (((wpF hw1).cov (by decide)).tr ((wpF hw2).cov (by decide)))), ?_, ?_, ?_⟩
        · rw [wpv hw2, if_neg (by decide), wpv hw1, if_pos ⟨rfl, rfl⟩]
          exact hn_t (by omega)
        · intro h
          exact absurd h (by omega)
        · intro _
          refine ⟨by rw [wpv hw2, if_neg (by decide), wpv hw1, if_neg (by decide), gv_eq (k2 1 9 (by decide))], ?_, ?_⟩
          · intro h
            exact absurd h (by omega)
          · intro _
            rw [wpv hw2, if_pos ⟨rfl, rfl⟩]
            decide
      · skip
        refine hq_F.st (s' := (159, _, _, _)) hf99_156 rfl rfl rfl (hs_icn (t := 164) (ci_gtn (by omega)) rfl) ?_
        refine hq_F.st (s' := (160, _, _, _)) hf99_159 rfl rfl rfl (hs_al g0) ?_
        refine hq_F.st (s' := (161, _, _, _)) hf99_160 rfl rfl rfl rfl ?_
        refine sy_pf hf99_161 hC2 sh_1 sk_9_66 (lo := -2147483648) (hi := 2147483647) rfl (af_i32 _) rfl rfl rfl (fun w3 hC3 hw3 => ?_)
        refine hq_F.en hf99_164 rfl rfl ?_
        refine ⟨rfl, hC3, (((k2).cov (by decide)).tr (((wpF hw1).cov (by decide)).tr (((wpF hw2).cov (by decide)).tr ((wpF hw3).cov (by decide))))), ?_, ?_, ?_⟩
        · rw [wpv hw3, if_neg (by decide), wpv hw2, if_neg (by decide), wpv hw1, if_pos ⟨rfl, rfl⟩]
          exact hn_t (by omega)
        · intro h
          exact absurd h (by omega)
        · intro _
          refine ⟨by rw [wpv hw3, if_neg (by decide), wpv hw2, if_neg (by decide), wpv hw1, if_neg (by decide), gv_eq (k2 1 9 (by decide))], ?_, ?_⟩
          · intro _
            exact ⟨by rw [wpv hw3, if_pos ⟨rfl, rfl⟩]; decide, by rw [wpv hw3, if_neg (by decide), wpv hw2, if_neg (by decide), wpv hw1, if_neg (by decide), k4]⟩
          · intro h
            exact absurd ⟨by omega, by omega⟩ h
  · skip
    refine hq_F.st (s' := (124, _, _, _)) hf99_121 rfl rfl rfl (hs_ifn (t := 150) (ci_nen (by omega)) rfl) ?_
    refine hq_F.st (s' := (125, _, _, _)) hf99_124 rfl rfl rfl (hs_iln g2) ?_
    refine hq_F.st (s' := (127, _, _, _)) hf99_125 rfl rfl rfl rfl ?_
    by_cases b127 : 7 < (Int32.ofNat nl).toInt
    · skip
      refine hq_F.st (s' := (150, _, _, _)) hf99_127 rfl rfl rfl (hs_ic (ci_gt (by omega)) rfl) ?_
      refine hq_F.st (s' := (151, _, _, _)) hf99_150 rfl rfl rfl (hs_iln g2) ?_
      by_cases b151 : ¬ (Int32.ofNat nl).toInt = 0
      · skip
        refine hq_F.st (s' := (164, _, _, _)) hf99_151 rfl rfl rfl (hs_if (ci_ne (by omega)) rfl) ?_
        refine hq_F.en hf99_164 rfl rfl ?_
        refine ⟨rfl, hC2, (((k2).cov (by decide)).tr (((wpF hw1).cov (by decide)).tr ((wpF hw2).cov (by decide)))), ?_, ?_, ?_⟩
        · rw [wpv hw2, if_neg (by decide), wpv hw1, if_pos ⟨rfl, rfl⟩]
          exact hn_t (by omega)
        · intro h
          exact absurd h (by omega)
        · intro _
          refine ⟨by rw [wpv hw2, if_neg (by decide), wpv hw1, if_neg (by decide), gv_eq (k2 1 9 (by decide))], ?_, ?_⟩
          · intro h
            exact absurd h (by omega)
          · intro _
            rw [wpv hw2, if_pos ⟨rfl, rfl⟩]
            decide
      · skip
        refine hq_F.st (s' := (154, _, _, _)) hf99_151 rfl rfl rfl (hs_ifn (t := 164) (ci_nen (by omega)) rfl) ?_
        refine hq_F.st (s' := (155, _, _, _)) hf99_154 rfl rfl rfl (hs_iln g3) ?_
        refine hq_F.st (s' := (156, _, _, _)) hf99_155 rfl rfl rfl rfl ?_
        by_cases b156 : 2 < (Int32.ofNat nd).toInt
        · skip
          refine hq_F.st (s' := (164, _, _, _)) hf99_156 rfl rfl rfl (hs_ic (ci_gt (by omega)) rfl) ?_
          refine hq_F.en hf99_164 rfl rfl ?_
          refine ⟨rfl, hC2, (((k2).cov (by decide)).tr (((wpF hw1).cov (by decide)).tr ((wpF hw2).cov (by decide)))), ?_, ?_, ?_⟩
          · rw [wpv hw2, if_neg (by decide), wpv hw1, if_pos ⟨rfl, rfl⟩]
            exact hn_t (by omega)
          · intro h
            exact absurd h (by omega)
          · intro _
            refine ⟨by rw [wpv hw2, if_neg (by decide), wpv hw1, if_neg (by decide), gv_eq (k2 1 9 (by decide))], ?_, ?_⟩
            · intro h
              exact absurd h (by omega)
            · intro _
              rw [wpv hw2, if_pos ⟨rfl, rfl⟩]
              decide
        · skip
          refine hq_F.st (s' := (159, _, _, _)) hf99_156 rfl rfl rfl (hs_icn (t := 164) (ci_gtn (by omega)) rfl) ?_
          refine hq_F.st (s' := (160, _, _, _)) hf99_159 rfl rfl rfl (hs_al g0) ?_
          refine hq_F.st (s' := (161, _, _, _)) hf99_160 rfl rfl rfl rfl ?_
          refine sy_pf hf99_161 hC2 sh_1 sk_9_66 (lo := -2147483648) (hi := 2147483647) rfl (af_i32 _) rfl rfl rfl (fun w4 hC4 hw4 => ?_)
          refine hq_F.en hf99_164 rfl rfl ?_
          refine ⟨rfl, hC4, (((k2).cov (by decide)).tr (((wpF hw1).cov (by decide)).tr (((wpF hw2).cov (by decide)).tr ((wpF hw4).cov (by decide))))), ?_, ?_, ?_⟩
          · rw [wpv hw4, if_neg (by decide), wpv hw2, if_neg (by decide), wpv hw1, if_pos ⟨rfl, rfl⟩]
            exact hn_t (by omega)
          · intro h
            exact absurd h (by omega)
          · intro _
            refine ⟨by rw [wpv hw4, if_neg (by decide), wpv hw2, if_neg (by decide), wpv hw1, if_neg (by decide), gv_eq (k2 1 9 (by decide))], ?_, ?_⟩
            · intro _
              exact ⟨by rw [wpv hw4, if_pos ⟨rfl, rfl⟩]; decide, by rw [wpv hw4, if_neg (by decide), wpv hw2, if_neg (by decide), wpv hw1, if_neg (by decide), k4]⟩
            · intro h
              exact absurd ⟨by omega, by omega⟩ h
    · skip
      refine hq_F.st (s' := (130, _, _, _)) hf99_127 rfl rfl rfl (hs_icn (t := 150) (ci_gtn (by omega)) rfl) ?_
      refine hq_F.st (s' := (131, _, _, _)) hf99_130 rfl rfl rfl (hs_al g0) ?_
      refine hq_F.st (s' := (132, _, _, _)) hf99_131 rfl rfl rfl rfl ?_
      refine sy_pf hf99_132 hC2 sh_1 sk_9_66 (lo := -2147483648) (hi := 2147483647) rfl (af_i32 _) rfl rfl rfl (fun w5 hC5 hw5 => ?_)
      refine hq_F.st (s' := (136, _, _, _)) hf99_135 rfl rfl rfl (hs_al g0) ?_
      refine hq_F.st (s' := (137, _, _, _)) hf99_136 rfl rfl rfl (hs_al g0) ?_
      refine hq_F.st (s' := (138, _, _, _)) hf99_137 rfl rfl rfl (hs_al g0) ?_
      refine hq_F.st (s' := (141, _, _, _)) hf99_138 rfl rfl rfl (hq_gf hC5 sh_1 sk_9_59 (sy_vl hC5 sh_1 rfl)) ?_
      refine hq_F.call hf99_141 rfl rfl si_9_89 (by decide) (by decide) sz_100 (sy_argsV hC5 sh_1 rfl rfl rfl (Nat.le_of_ble_eq_true rfl) rfl (Nat.le_of_ble_eq_true rfl) rfl (by decide)) (tc_100 hC5 (x := (gl w5 1 8))) (fun _ _ q => by rw [q.1]) ?_
      rintro r141 w5 ⟨rfl, kv, rfl, hkv⟩
      try dsimp only
      refine sy_pf hf99_144 hC5 sh_1 sk_9_63 (lo := -2147483648) (hi := 2147483647) rfl (af_i32 _) rfl rfl rfl (fun w6 hC6 hw6 => ?_)
      refine hq_F.st (s' := (164, _, _, _)) hf99_147 rfl rfl rfl rfl ?_
      refine hq_F.en hf99_164 rfl rfl ?_
      refine ⟨rfl, hC6, (((k2).cov (by decide)).tr (((wpF hw1).cov (by decide)).tr (((wpF hw2).cov (by decide)).tr (((wpF hw5).cov (by decide)).tr ((wpF hw6).cov (by decide)))))), ?_, ?_, ?_⟩
      · rw [wpv hw6, if_neg (by decide), wpv hw5, if_neg (by decide), wpv hw2, if_neg (by decide), wpv hw1, if_pos ⟨rfl, rfl⟩]
        exact hn_t (by omega)
      · intro _
        refine ⟨by rw [wpv hw6, if_neg (by decide), wpv hw5, if_pos ⟨rfl, rfl⟩]; decide, by rw [wpvl hw6, if_neg (by decide), wpvl hw5, if_neg (by decide), wpvl hw2, if_neg (by decide), wpvl hw1, if_neg (by decide), k3], ?_⟩
        rw [wpv hw6, if_pos ⟨rfl, rfl⟩, hkv]
        have e8 : gl w5 1 8 = (tq_rn tp B i).foldl tq_fw (gl w 1 8) := by rw [wpvl hw5, if_neg (by decide), wpvl hw2, if_neg (by decide), wpvl hw1, if_neg (by decide), k3]
        have e3 : ∀ k, gl w5 3 k = gl w 3 k := fun k => by rw [wpvl hw5, if_neg (fun q => absurd q.1 (by decide)), wpvl hw2, if_neg (fun q => absurd q.1 (by decide)), wpvl hw1, if_neg (fun q => absurd q.1 (by decide)), gl_eq (hq_cell k2 (by decide))]
        rw [e8]
        simp only [e3]
      · intro h
        exact absurd ⟨by omega, by omega⟩ h
/-- what reading the next TOKEN leaves in the class; s: where it begins -/
def tc_A (tp : Nat → Nat) (B M s : Nat) (w w' : pi_W) : Prop :=
  (B ≤ s ∨ M ≤ s → (gv w' 1 5).toInt = (if M < B then 1 else 0) ∧ (gv w' 1 6).toInt = ((if M < B then M else B : Nat) : Int) ∧ (gv w' 1 9).toInt = -1) ∧
  (¬ (B ≤ s ∨ M ≤ s) → (gv w' 1 6).toInt = (s : Int) ∧
    (tq_ld (tp s) = true → ∃ wb, gl wb 1 8 = 0 ∧ gv wb 1 7 = 0 ∧ (gv wb 1 9).toInt = -1 ∧ (∀ k, gl wb 3 k = gl w 3 k) ∧ tc_R wb (tq_rn tp B s) s w') ∧
    (tq_ld (tp s) = false → (gv w' 1 4).toInt = ((s + 1 : Nat) : Int) ∧ (gv w' 1 7).toInt = (tp s : Int) ∧ (gv w' 1 9).toInt = -1 ∧ (gv w' 1 5).toInt = (if tq_sg (tp s) = true then 4 else 1)))
theorem sy_min {x y : Int32} : (if y < x then y else x).toInt = if y.toInt < x.toInt then y.toInt else x.toInt := by
  by_cases h : y < x
  · rw [if_pos h, if_pos (Int32.lt_iff_toInt_lt.mp h)]
  · rw [if_neg h, if_neg (fun q => h (Int32.lt_iff_toInt_lt.mpr q))]
theorem tc_98b {d B M s : Nat} {tp : Nat → Nat} {w : pi_W} {lv : pi_L} (hC : af_Conf aw_Sh w) (hP : tc_P tp B w) (hM : (gv w 1 3).toInt = (M : Int)) (hs : s ≤ B) (g0 : pi_get lv 0 = some (.ref 1)) (g1 : pi_get lv 1 = some (.int (Int32.ofNat s))) : hq_F (d + 2) sm98 (fun r w' => r = none ∧ af_Conf aw_Sh w' ∧ af_Fr [(1, 4, 10)] w w' ∧ tc_A tp B M s w w') (39, lv, [], w) := by
  obtain ⟨hB, hB9, htp⟩ := id hP
  have ts : (Int32.ofNat s).toInt = (s : Int) := hn_t (by omega)
  have tr := tc_b_r w s
  have htb : s < 940 → (tc_b w s).toInt = (tp s : Int) := htp s
  have kc0 : (((Int8.ofInt 40).toInt32)).toInt = 40 := by decide
  have kc1 : (((Int8.ofInt 41).toInt32)).toInt = 41 := by decide
  have kc2 : (((Int8.ofInt 59).toInt32)).toInt = 59 := by decide
  have kc3 : (((Int8.ofInt 60).toInt32)).toInt = 60 := by decide
  have kc4 : (((Int8.ofInt 61).toInt32)).toInt = 61 := by decide
  have kc5 : (((Int8.ofInt 62).toInt32)).toInt = 62 := by decide
  have kc6 : ((0 : Int32)).toInt = 0 := by decide
  have kc7 : ((1 : Int32)).toInt = 1 := by decide
  have kc8 : ((Int32.ofInt (-1))).toInt = (-1) := by decide
  have kc9 : ((Int32.ofInt 0)).toInt = 0 := by decide
  have kc10 : ((Int32.ofInt 1)).toInt = 1 := by decide
  have kc11 : ((Int32.ofInt 4)).toInt = 4 := by decide
  have kz := sy_z0
  refine hq_F.st (s' := (40, _, _, _)) hf98_39 rfl rfl rfl (hs_al g0) ?_
  refine hq_F.st (s' := (41, _, _, _)) hf98_40 rfl rfl rfl rfl ?_
  refine sy_pf hf98_41 hC sh_1 sk_9_56 (lo := -2147483648) (hi := 2147483647) rfl (af_i32 _) rfl rfl rfl (fun w1 hC1 hw1 => ?_)
  refine hq_F.st (s' := (45, _, _, _)) hf98_44 rfl rfl rfl (hs_al g0) ?_
  refine hq_F.st (s' := (46, _, _, _)) hf98_45 rfl rfl rfl rfl ?_
  refine sy_pl hf98_46 hC1 sh_1 sk_9_59 rfl rfl rfl rfl (fun w2 hC2 hw2 => ?_)
  refine hq_F.st (s' := (50, _, _, _)) hf98_49 rfl rfl rfl (hs_al g0) ?_
  refine hq_F.st (s' := (51, _, _, _)) hf98_50 rfl rfl rfl rfl ?_
  refine sy_pf hf98_51 hC2 sh_1 sk_9_63 (lo := -2147483648) (hi := 2147483647) rfl (af_i32 _) rfl rfl rfl (fun w3 hC3 hw3 => ?_)
  refine hq_F.st (s' := (55, _, _, _)) hf98_54 rfl rfl rfl (hs_iln g1) ?_
  refine hq_F.st (s' := (56, _, _, _)) hf98_55 rfl rfl rfl (hs_al g0) ?_
  refine hq_F.st (s' := (59, _, _, _)) hf98_56 rfl rfl rfl (hq_gf hC3 sh_1 sk_9_33 (sy_v hC3 (by decide) rfl)) ?_
  have q56 : (gv w3 1 2).toInt = (gv w 1 2).toInt := by rw [wpv hw3, if_neg (by decide), wplv hw2, if_neg (by decide), wpv hw1, if_neg (by decide)]
  by_cases b59 : ((gv w3 1 2)).toInt ≤ (Int32.ofNat s).toInt
  · skip
    refine hq_F.st (s' := (70, _, _, _)) hf98_59 rfl rfl rfl (hs_ic (ci_ge (by omega)) rfl) ?_
    refine hq_F.st (s' := (71, _, _, _)) hf98_70 rfl rfl rfl (hs_al g0) ?_
    refine hq_F.st (s' := (72, _, _, _)) hf98_71 rfl rfl rfl (hs_al g0) ?_
    refine hq_F.st (s' := (75, _, _, _)) hf98_72 rfl rfl rfl (hq_gf hC3 sh_1 sk_9_33 (sy_v hC3 (by decide) rfl)) ?_
    have q72 : (gv w3 1 2).toInt = (gv w 1 2).toInt := by rw [wpv hw3, if_neg (by decide), wplv hw2, if_neg (by decide), wpv hw1, if_neg (by decide)]
    refine hq_F.st (s' := (76, _, _, _)) hf98_75 rfl rfl rfl (hs_al g0) ?_
    refine hq_F.st (s' := (79, _, _, _)) hf98_76 rfl rfl rfl (hq_gf hC3 sh_1 sk_9_37 (sy_v hC3 (by decide) rfl)) ?_
    have q76 : (gv w3 1 3).toInt = (gv w 1 3).toInt := by rw [wpv hw3, if_neg (by decide), wplv hw2, if_neg (by decide), wpv hw1, if_neg (by decide)]
    by_cases b79 : ((gv w3 1 2)).toInt ≤ ((gv w3 1 3)).toInt
    · skip
      refine hq_F.st (s' := (86, _, _, _)) hf98_79 rfl rfl rfl (hs_ic (ci_le (by omega)) rfl) ?_
      refine hq_F.st (s' := (87, _, _, _)) hf98_86 rfl rfl rfl rfl ?_
      refine sy_pf hf98_87 hC3 sh_1 sk_9_66 (lo := -2147483648) (hi := 2147483647) rfl (af_i32 _) rfl rfl rfl (fun w4 hC4 hw4 => ?_)
      refine hq_F.st (s' := (91, _, _, _)) hf98_90 rfl rfl rfl (hs_al g0) ?_
      refine hq_F.st (s' := (92, _, _, _)) hf98_91 rfl rfl rfl (hs_al g0) ?_
      refine hq_F.st (s' := (95, _, _, _)) hf98_92 rfl rfl rfl (hq_gf hC4 sh_1 sk_9_33 (sy_v hC4 (by decide) rfl)) ?_
      have q92 : (gv w4 1 2).toInt = (gv w 1 2).toInt := by rw [wpv hw4, if_neg (by decide), wpv hw3, if_neg (by decide), wplv hw2, if_neg (by decide), wpv hw1, if_neg (by decide)]
      refine hq_F.st (s' := (96, _, _, _)) hf98_95 rfl rfl rfl (hs_al g0) ?_
      refine hq_F.st (s' := (99, _, _, _)) hf98_96 rfl rfl rfl (hq_gf hC4 sh_1 sk_9_37 (sy_v hC4 (by decide) rfl)) ?_
      have q96 : (gv w4 1 3).toInt = (gv w 1 3).toInt := by rw [wpv hw4, if_neg (by decide), wpv hw3, if_neg (by decide), wplv hw2, if_neg (by decide), wpv hw1, if_neg (by decide)]
      refine sy_spec hf98_99 rfl rfl si_9_69 (by decide) (by decide) (by decide) rfl ?_
      refine sy_pf hf98_102 hC4 sh_1 sk_9_75 (lo := -2147483648) (hi := 2147483647) rfl (af_i32 _) rfl rfl rfl (fun w5 hC5 hw5 => ?_)
      refine hq_F.en hf98_105 rfl rfl ?_
      refine ⟨rfl, hC5, (((wpF hw1).cov (by decide)).tr (((wpF hw2).cov (by decide)).tr (((wpF hw3).cov (by decide)).tr (((wpF hw4).cov (by decide)).tr ((wpF hw5).cov (by decide)))))), ?_, ?_⟩
      · intro _
        refine ⟨?_, ?_, ?_⟩
        · rw [wpv hw5, if_neg (by decide), wpv hw4, if_pos ⟨rfl, rfl⟩, if_neg (by omega)]
          decide
        · rw [wpv hw5, if_pos ⟨rfl, rfl⟩, sy_min, if_neg (by omega), if_neg (by omega)]
          omega
        · rw [wpv hw5, if_neg (by decide), wpv hw4, if_neg (by decide), wpv hw3, if_pos ⟨rfl, rfl⟩]
          decide
      · intro h
        exact absurd (by omega) h
    · skip
      refine hq_F.st (s' := (82, _, _, _)) hf98_79 rfl rfl rfl (hs_icn (t := 86) (ci_len (by omega)) rfl) ?_
      refine hq_F.st (s' := (83, _, _, _)) hf98_82 rfl rfl rfl rfl ?_
      refine hq_F.st (s' := (87, _, _, _)) hf98_83 rfl rfl rfl rfl ?_
      refine sy_pf hf98_87 hC3 sh_1 sk_9_66 (lo := -2147483648) (hi := 2147483647) rfl (af_i32 _) rfl rfl rfl (fun w6 hC6 hw6 => ?_)
      refine hq_F.st (s' := (91, _, _, _)) hf98_90 rfl rfl rfl (hs_al g0) ?_
      refine hq_F.st (s' := (92, _, _, _)) hf98_91 rfl rfl rfl (hs_al g0) ?_
      refine hq_F.st (s' := (95, _, _, _)) hf98_92 rfl rfl rfl (hq_gf hC6 sh_1 sk_9_33 (sy_v hC6 (by decide) rfl)) ?_
      have q92 : (gv w6 1 2).toInt = (gv w 1 2).toInt := by rw [wpv hw6, if_neg (by decide), wpv hw3, if_neg (by decide), wplv hw2, if_neg (by decide), wpv hw1, if_neg (by decide)]
      refine hq_F.st (s' := (96, _, _, _)) hf98_95 rfl rfl rfl (hs_al g0) ?_
      refine hq_F.st (s' := (99, _, _, _)) hf98_96 rfl rfl rfl (hq_gf hC6 sh_1 sk_9_37 (sy_v hC6 (by decide) rfl)) ?_
      have q96 : (gv w6 1 3).toInt = (gv w 1 3).toInt := by rw [wpv hw6, if_neg (by decide), wpv hw3, if_neg (by decide), wplv hw2, if_neg (by decide), wpv hw1, if_neg (by decide)]
      refine sy_spec hf98_99 rfl rfl si_9_69 (by decide) (by decide) (by decide) rfl ?_
      refine sy_pf hf98_102 hC6 sh_1 sk_9_75 (lo := -2147483648) (hi := 2147483647) rfl (af_i32 _) rfl rfl rfl (fun w7 hC7 hw7 => ?_)
      refine hq_F.en hf98_105 rfl rfl ?_
      refine ⟨rfl, hC7, (((wpF hw1).cov (by decide)).tr (((wpF hw2).cov (by decide)).tr (((wpF hw3).cov (by decide)).tr (((wpF hw6).cov (by decide)).tr ((wpF hw7).cov (by decide)))))), ?_, ?_⟩
      · intro _
        refine ⟨?_, ?_, ?_⟩
        · rw [wpv hw7, if_neg (by decide), wpv hw6, if_pos ⟨rfl, rfl⟩, if_pos (by omega)]
          decide
        · rw [wpv hw7, if_pos ⟨rfl, rfl⟩, sy_min, if_pos (by omega), if_pos (by omega)]
          omega
        · rw [wpv hw7, if_neg (by decide), wpv hw6, if_neg (by decide), wpv hw3, if_pos ⟨rfl, rfl⟩]
          decide
      · intro h
        exact absurd (by omega) h
  · skip
    refine hq_F.st (s' := (62, _, _, _)) hf98_59 rfl rfl rfl (hs_icn (t := 70) (ci_gen (by omega)) rfl) ?_
    refine hq_F.st (s' := (63, _, _, _)) hf98_62 rfl rfl rfl (hs_iln g1) ?_
    refine hq_F.st (s' := (64, _, _, _)) hf98_63 rfl rfl rfl (hs_al g0) ?_
    refine hq_F.st (s' := (67, _, _, _)) hf98_64 rfl rfl rfl (hq_gf hC3 sh_1 sk_9_37 (sy_v hC3 (by decide) rfl)) ?_
    have q64 : (gv w3 1 3).toInt = (gv w 1 3).toInt := by rw [wpv hw3, if_neg (by decide), wplv hw2, if_neg (by decide), wpv hw1, if_neg (by decide)]
    by_cases b67 : (Int32.ofNat s).toInt < ((gv w3 1 3)).toInt
    · skip
      refine hq_F.st (s' := (106, _, _, _)) hf98_67 rfl rfl rfl (hs_ic (ci_lt (by omega)) rfl) ?_
      refine hq_F.st (s' := (107, _, _, _)) hf98_106 rfl rfl rfl (hs_al g0) ?_
      refine hq_F.st (s' := (108, _, _, _)) hf98_107 rfl rfl rfl (hs_iln g1) ?_
      refine sy_pf hf98_108 hC3 sh_1 sk_9_75 (lo := -2147483648) (hi := 2147483647) rfl (af_i32 _) rfl rfl rfl (fun w8 hC8 hw8 => ?_)
      refine hq_F.st (s' := (112, _, _, _)) hf98_111 rfl rfl rfl (hs_al g0) ?_
      refine hq_F.st (s' := (113, _, _, _)) hf98_112 rfl rfl rfl (hs_iln g1) ?_
      refine hq_F.call hf98_113 rfl rfl si_9_52 (by decide) (by decide) sz_96 (sy_argsV hC8 sh_1 rfl rfl rfl (Nat.le_of_ble_eq_true rfl) rfl (Nat.le_of_ble_eq_true rfl) rfl (by decide)) (tc_96 hC8 (n := s) (by omega)) (fun _ _ q => by rw [q.1]) ?_
      rintro r113 w8 ⟨rfl, rfl⟩
      try dsimp only
      have tb : tc_b w8 s = tc_b w s := by unfold tc_b; rw [wpv hw8, if_neg (fun q => absurd q.1 (by decide)), wpv hw3, if_neg (fun q => absurd q.1 (by decide)), wplv hw2, if_neg (fun q => absurd q.1 (by decide)), wpv hw1, if_neg (fun q => absurd q.1 (by decide))]
      rw [tb]
      have htb1 := htb (by omega)
      refine hq_F.st (s' := (117, _, _, _)) hf98_116 rfl rfl rfl rfl ?_
      refine hq_F.st (s' := (118, _, _, _)) hf98_117 rfl rfl rfl (hs_iln (pi_get_set _ _ _)) ?_
      refine hq_F.call hf98_118 rfl rfl si_9_78 (by decide) (by decide) sz_101 (sy_argsS rfl rfl rfl (Nat.le_of_ble_eq_true rfl) (by decide) rfl (Nat.le_of_ble_eq_true rfl) (by decide)) (tc_101 (x := (tc_b w s))) (fun _ _ q => by rw [q.1]) ?_
      rintro r118 w8 ⟨rfl, rfl⟩
      try dsimp only
      by_cases l118 : 97 ≤ ((tc_b w s)).toInt ∧ ((tc_b w s)).toInt ≤ 122
      · rw [if_pos l118]
        refine hq_F.st (s' := (131, _, _, _)) hf98_121 rfl rfl rfl (hs_if (ci_ne (by omega)) rfl) ?_
        refine hq_F.st (s' := (132, _, _, _)) hf98_131 rfl rfl rfl (hs_al (hg_nr g0 (by decide))) ?_
        refine hq_F.st (s' := (133, _, _, _)) hf98_132 rfl rfl rfl (hs_iln (hg_ne g1 (by decide))) ?_
        refine hq_F.call hf98_133 rfl rfl si_9_85 (by decide) (by decide) sz_99 (sy_argsV hC8 sh_1 rfl rfl rfl (Nat.le_of_ble_eq_true rfl) rfl (Nat.le_of_ble_eq_true rfl) rfl (by decide)) (tc_99 (d := d) hC8 (hP.fr (((wpF hw1).cov (M := [(1, 4, 10)]) (by decide)).tr (((wpF hw2).cov (M := [(1, 4, 10)]) (by decide)).tr (((wpF hw3).cov (M := [(1, 4, 10)]) (by decide)).tr ((wpF hw8).cov (M := [(1, 4, 10)]) (by decide))))) (by decide) (by decide)) (by omega)) (fun _ _ q => by rw [q.2.1.1, hC8.1]) ?_
        rintro r133 w9 ⟨rfl, hC9, hF9, hR⟩
        try dsimp only
        refine hq_F.en hf98_136 rfl rfl ?_
        refine ⟨rfl, hC9, (((wpF hw1).cov (by decide)).tr (((wpF hw2).cov (by decide)).tr (((wpF hw3).cov (by decide)).tr (((wpF hw8).cov (by decide)).tr ((hF9).cov (by decide)))))), ?_, ?_⟩
        · intro h
          exact absurd h (by omega)
        · intro _
          refine ⟨by rw [gv_eq (hF9 1 6 (by decide)), wpv hw8, if_pos ⟨rfl, rfl⟩]; exact ts, ?_, ?_⟩
          · intro _
            refine ⟨w8, ?_, ?_, ?_, ?_, hR⟩
            · rw [wpvl hw8, if_neg (by decide), wpvl hw3, if_neg (by decide), wpl hw2, if_pos ⟨rfl, rfl⟩]
              rfl
            · rw [wpv hw8, if_neg (by decide), wpv hw3, if_neg (by decide), wplv hw2, if_neg (by decide), wpv hw1, if_pos ⟨rfl, rfl⟩]
              rfl
            · rw [wpv hw8, if_neg (by decide), wpv hw3, if_pos ⟨rfl, rfl⟩]
              decide
            · intro k
              rw [wpvl hw8, if_neg (fun q => absurd q.1 (by decide)), wpvl hw3, if_neg (fun q => absurd q.1 (by decide)), wpl hw2, if_neg (fun q => absurd q.1 (by decide)), wpvl hw1, if_neg (fun q => absurd q.1 (by decide))]
          · intro h
            rw [tq_ldt (by omega)] at h
            cases h
      · rw [if_neg l118]
        refine hq_F.st (s' := (124, _, _, _)) hf98_121 rfl rfl rfl (hs_ifn (t := 131) (ci_nen (by omega)) rfl) ?_
        refine hq_F.st (s' := (125, _, _, _)) hf98_124 rfl rfl rfl (hs_iln (pi_get_set _ _ _)) ?_
        refine hq_F.call hf98_125 rfl rfl si_9_82 (by decide) (by decide) sz_102 (sy_argsS rfl rfl rfl (Nat.le_of_ble_eq_true rfl) (by decide) rfl (Nat.le_of_ble_eq_true rfl) (by decide)) (tc_102 (x := (tc_b w s))) (fun _ _ q => by rw [q.1]) ?_
        rintro r125 w8 ⟨rfl, rfl⟩
        try dsimp only
        by_cases d125 : 48 ≤ ((tc_b w s)).toInt ∧ ((tc_b w s)).toInt ≤ 57
        · rw [if_pos d125]
          refine hq_F.st (s' := (131, _, _, _)) hf98_128 rfl rfl rfl (hs_ifn (t := 137) (ci_eqn (by omega)) rfl) ?_
          refine hq_F.st (s' := (132, _, _, _)) hf98_131 rfl rfl rfl (hs_al (hg_nr g0 (by decide))) ?_
          refine hq_F.st (s' := (133, _, _, _)) hf98_132 rfl rfl rfl (hs_iln (hg_ne g1 (by decide))) ?_
          refine hq_F.call hf98_133 rfl rfl si_9_85 (by decide) (by decide) sz_99 (sy_argsV hC8 sh_1 rfl rfl rfl (Nat.le_of_ble_eq_true rfl) rfl (Nat.le_of_ble_eq_true rfl) rfl (by decide)) (tc_99 (d := d) hC8 (hP.fr (((wpF hw1).cov (M := [(1, 4, 10)]) (by decide)).tr (((wpF hw2).cov (M := [(1, 4, 10)]) (by decide)).tr (((wpF hw3).cov (M := [(1, 4, 10)]) (by decide)).tr ((wpF hw8).cov (M := [(1, 4, 10)]) (by decide))))) (by decide) (by decide)) (by omega)) (fun _ _ q => by rw [q.2.1.1, hC8.1]) ?_
          rintro r133 w10 ⟨rfl, hC10, hF10, hR⟩
          try dsimp only
          refine hq_F.en hf98_136 rfl rfl ?_
          refine ⟨rfl, hC10, (((wpF hw1).cov (by decide)).tr (((wpF hw2).cov (by decide)).tr (((wpF hw3).cov (by decide)).tr (((wpF hw8).cov (by decide)).tr ((hF10).cov (by decide)))))), ?_, ?_⟩
          · intro h
            exact absurd h (by omega)
          · intro _
            refine ⟨by rw [gv_eq (hF10 1 6 (by decide)), wpv hw8, if_pos ⟨rfl, rfl⟩]; exact ts, ?_, ?_⟩
            · intro _
              refine ⟨w8, ?_, ?_, ?_, ?_, hR⟩
              · rw [wpvl hw8, if_neg (by decide), wpvl hw3, if_neg (by decide), wpl hw2, if_pos ⟨rfl, rfl⟩]
                rfl
              · rw [wpv hw8, if_neg (by decide), wpv hw3, if_neg (by decide), wplv hw2, if_neg (by decide), wpv hw1, if_pos ⟨rfl, rfl⟩]
                rfl
              · rw [wpv hw8, if_neg (by decide), wpv hw3, if_pos ⟨rfl, rfl⟩]
                decide
              · intro k
                rw [wpvl hw8, if_neg (fun q => absurd q.1 (by decide)), wpvl hw3, if_neg (fun q => absurd q.1 (by decide)), wpl hw2, if_neg (fun q => absurd q.1 (by decide)), wpvl hw1, if_neg (fun q => absurd q.1 (by decide))]
            · intro h
              rw [tq_ldt (by omega)] at h
              cases h
        · rw [if_neg d125]
          refine hq_F.st (s' := (137, _, _, _)) hf98_128 rfl rfl rfl (hs_if (ci_eq (by omega)) rfl) ?_
          refine hq_F.st (s' := (138, _, _, _)) hf98_137 rfl rfl rfl (hs_al (hg_nr g0 (by decide))) ?_
          refine hq_F.st (s' := (139, _, _, _)) hf98_138 rfl rfl rfl (hs_iln (hg_ne g1 (by decide))) ?_
          refine hq_F.st (s' := (140, _, _, _)) hf98_139 rfl rfl rfl rfl ?_
          refine hq_F.st (s' := (141, _, _, _)) hf98_140 rfl rfl rfl rfl ?_
          refine sy_pf hf98_141 hC8 sh_1 sk_9_40 (lo := -2147483648) (hi := 2147483647) rfl (af_i32 _) rfl rfl rfl (fun w11 hC11 hw11 => ?_)
          refine hq_F.st (s' := (145, _, _, _)) hf98_144 rfl rfl rfl (hs_al (hg_nr g0 (by decide))) ?_
          refine hq_F.st (s' := (146, _, _, _)) hf98_145 rfl rfl rfl (hs_iln (pi_get_set _ _ _)) ?_
          refine sy_pf hf98_146 hC11 sh_1 sk_9_56 (lo := -2147483648) (hi := 2147483647) rfl (af_i32 _) rfl rfl rfl (fun w12 hC12 hw12 => ?_)
          refine hq_F.st (s' := (150, _, _, _)) hf98_149 rfl rfl rfl (hs_al (hg_nr g0 (by decide))) ?_
          refine hq_F.st (s' := (151, _, _, _)) hf98_150 rfl rfl rfl (hs_iln (pi_get_set _ _ _)) ?_
          refine hq_F.st (s' := (153, _, _, _)) hf98_151 rfl rfl rfl rfl ?_
          by_cases b153 : ((tc_b w s)).toInt = 59
          · skip
            refine hq_F.st (s' := (186, _, _, _)) hf98_153 rfl rfl rfl (hs_ic (ci_eq (by omega)) rfl) ?_
            refine hq_F.st (s' := (187, _, _, _)) hf98_186 rfl rfl rfl rfl ?_
            refine hq_F.st (s' := (191, _, _, _)) hf98_187 rfl rfl rfl rfl ?_
            refine sy_pf hf98_191 hC12 sh_1 sk_9_66 (lo := -2147483648) (hi := 2147483647) rfl (af_i32 _) rfl rfl rfl (fun w13 hC13 hw13 => ?_)
            refine hq_F.en hf98_194 rfl rfl ?_
            refine ⟨rfl, hC13, (((wpF hw1).cov (by decide)).tr (((wpF hw2).cov (by decide)).tr (((wpF hw3).cov (by decide)).tr (((wpF hw8).cov (by decide)).tr (((wpF hw11).cov (by decide)).tr (((wpF hw12).cov (by decide)).tr ((wpF hw13).cov (by decide)))))))), ?_, ?_⟩
            · intro h
              exact absurd h (by omega)
            · intro _
              refine ⟨by rw [wpv hw13, if_neg (by decide), wpv hw12, if_neg (by decide), wpv hw11, if_neg (by decide), wpv hw8, if_pos ⟨rfl, rfl⟩]; exact ts, ?_, ?_⟩
              · intro h
                rw [tq_ldf (by omega) (by omega)] at h
                cases h
              · intro _
                refine ⟨?_, ?_, ?_, ?_⟩
                · rw [wpv hw13, if_neg (by decide), wpv hw12, if_neg (by decide), wpv hw11, if_pos ⟨rfl, rfl⟩, show (Int32.ofInt 1) = Int32.ofNat 1 from rfl, hn_a]
                  exact hn_t (by omega)
                · rw [wpv hw13, if_neg (by decide), wpv hw12, if_pos ⟨rfl, rfl⟩]
                  exact htb1
                · rw [wpv hw13, if_neg (by decide), wpv hw12, if_neg (by decide), wpv hw11, if_neg (by decide), wpv hw8, if_neg (by decide), wpv hw3, if_pos ⟨rfl, rfl⟩]
                  decide
                · rw [wpv hw13, if_pos ⟨rfl, rfl⟩, if_pos (by simp only [tq_sg, Bool.or_eq_true, decide_eq_true_eq]; omega)]
                  decide
          · skip
            refine hq_F.st (s' := (156, _, _, _)) hf98_153 rfl rfl rfl (hs_icn (t := 186) (ci_eqn (by omega)) rfl) ?_
            refine hq_F.st (s' := (157, _, _, _)) hf98_156 rfl rfl rfl (hs_iln (pi_get_set _ _ _)) ?_
            refine hq_F.st (s' := (159, _, _, _)) hf98_157 rfl rfl rfl rfl ?_
            by_cases b159 : ((tc_b w s)).toInt = 60
            · skip
              refine hq_F.st (s' := (186, _, _, _)) hf98_159 rfl rfl rfl (hs_ic (ci_eq (by omega)) rfl) ?_
              refine hq_F.st (s' := (187, _, _, _)) hf98_186 rfl rfl rfl rfl ?_
              refine hq_F.st (s' := (191, _, _, _)) hf98_187 rfl rfl rfl rfl ?_
              refine sy_pf hf98_191 hC12 sh_1 sk_9_66 (lo := -2147483648) (hi := 2147483647) rfl (af_i32 _) rfl rfl rfl (fun w14 hC14 hw14 => ?_)
              refine hq_F.en hf98_194 rfl rfl ?_
              refine ⟨rfl, hC14, (((wpF hw1).cov (by decide)).tr (((wpF hw2).cov (by decide)).tr (((wpF hw3).cov (by decide)).tr (((wpF hw8).cov (by decide)).tr (((wpF hw11).cov (by decide)).tr (((wpF hw12).cov (by decide)).tr ((wpF hw14).cov (by decide)))))))), ?_, ?_⟩
              · intro h
                exact absurd h (by omega)
              · intro _
                refine ⟨by rw [wpv hw14, if_neg (by decide), wpv hw12, if_neg (by decide), wpv hw11, if_neg (by decide), wpv hw8, if_pos ⟨rfl, rfl⟩]; exact ts, ?_, ?_⟩
                · intro h
                  rw [tq_ldf (by omega) (by omega)] at h
                  cases h
                · intro _
                  refine ⟨?_, ?_, ?_, ?_⟩
                  · rw [wpv hw14, if_neg (by decide), wpv hw12, if_neg (by decide), wpv hw11, if_pos ⟨rfl, rfl⟩, show (Int32.ofInt 1) = Int32.ofNat 1 from rfl, hn_a]
                    exact hn_t (by omega)
                  · rw [wpv hw14, if_neg (by decide), wpv hw12, if_pos ⟨rfl, rfl⟩]
                    exact htb1
                  · rw [wpv hw14, if_neg (by decide), wpv hw12, if_neg (by decide), wpv hw11, if_neg (by decide), wpv hw8, if_neg (by decide), wpv hw3, if_pos ⟨rfl, rfl⟩]
                    decide
                  · rw [wpv hw14, if_pos ⟨rfl, rfl⟩, if_pos (by simp only [tq_sg, Bool.or_eq_true, decide_eq_true_eq]; omega)]
                    decide
            · skip
              refine hq_F.st (s' := (162, _, _, _)) hf98_159 rfl rfl rfl (hs_icn (t := 186) (ci_eqn (by omega)) rfl) ?_
              refine hq_F.st (s' := (163, _, _, _)) hf98_162 rfl rfl rfl (hs_iln (pi_get_set _ _ _)) ?_
              refine hq_F.st (s' := (165, _, _, _)) hf98_163 rfl rfl rfl rfl ?_
              by_cases b165 : ((tc_b w s)).toInt = 61
              · skip
                refine hq_F.st (s' := (186, _, _, _)) hf98_165 rfl rfl rfl (hs_ic (ci_eq (by omega)) rfl) ?_
                refine hq_F.st (s' := (187, _, _, _)) hf98_186 rfl rfl rfl rfl ?_
                refine hq_F.st (s' := (191, _, _, _)) hf98_187 rfl rfl rfl rfl ?_
                refine sy_pf hf98_191 hC12 sh_1 sk_9_66 (lo := -2147483648) (hi := 2147483647) rfl (af_i32 _) rfl rfl rfl (fun w15 hC15 hw15 => ?_)
                refine hq_F.en hf98_194 rfl rfl ?_
                refine ⟨rfl, hC15, (((wpF hw1).cov (by decide)).tr (((wpF hw2).cov (by decide)).tr (((wpF hw3).cov (by decide)).tr (((wpF hw8).cov (by decide)).tr (((wpF hw11).cov (by decide)).tr (((wpF hw12).cov (by decide)).tr ((wpF hw15).cov (by decide)))))))), ?_, ?_⟩
                · intro h
                  exact absurd h (by omega)
                · intro _
                  refine ⟨by rw [wpv hw15, if_neg (by decide), wpv hw12, if_neg (by decide), wpv hw11, if_neg (by decide), wpv hw8, if_pos ⟨rfl, rfl⟩]; exact ts, ?_, ?_⟩
                  · intro h
                    rw [tq_ldf (by omega) (by omega)] at h
                    cases h
                  · intro _
                    refine ⟨?_, ?_, ?_, ?_⟩
                    · rw [wpv hw15, if_neg (by decide), wpv hw12, if_neg (by decide), wpv hw11, if_pos ⟨rfl, rfl⟩, show (Int32.ofInt 1) = Int32.ofNat 1 from rfl, hn_a]
                      exact hn_t (by omega)
                    · rw [wpv hw15, if_neg (by decide), wpv hw12, if_pos ⟨rfl, rfl⟩]
                      exact htb1
                    · rw [wpv hw15, if_neg (by decide), wpv hw12, if_neg (by decide), wpv hw11, if_neg (by decide), wpv hw8, if_neg (by decide), wpv hw3, if_pos ⟨rfl, rfl⟩]
                      decide
                    · rw [wpv hw15, if_pos ⟨rfl, rfl⟩, if_pos (by simp only [tq_sg, Bool.or_eq_true, decide_eq_true_eq]; omega)]
                      decide
              · skip
                refine hq_F.st (s' := (168, _, _, _)) hf98_165 rfl rfl rfl (hs_icn (t := 186) (ci_eqn (by omega)) rfl) ?_
                refine hq_F.st (s' := (169, _, _, _)) hf98_168 rfl rfl rfl (hs_iln (pi_get_set _ _ _)) ?_
                refine hq_F.st (s' := (171, _, _, _)) hf98_169 rfl rfl rfl rfl ?_
                by_cases b171 : ((tc_b w s)).toInt = 62
                · skip
                  refine hq_F.st (s' := (186, _, _, _)) hf98_171 rfl rfl rfl (hs_ic (ci_eq (by omega)) rfl) ?_
                  refine hq_F.st (s' := (187, _, _, _)) hf98_186 rfl rfl rfl rfl ?_
                  refine hq_F.st (s' := (191, _, _, _)) hf98_187 rfl rfl rfl rfl ?_
                  refine sy_pf hf98_191 hC12 sh_1 sk_9_66 (lo := -2147483648) (hi := 2147483647) rfl (af_i32 _) rfl rfl rfl (fun w16 hC16 hw16 => ?_)
                  refine hq_F.en hf98_194 rfl rfl ?_
                  refine ⟨rfl, hC16, (((wpF hw1).cov (by decide)).tr (((wpF hw2).cov (by decide)).tr (((wpF hw3).cov (by decide)).tr (((wpF hw8).cov (by decide)).tr (((wpF hw11).cov (by decide)).tr (((wpF hw12).cov (by decide)).tr ((wpF hw16).cov (by decide)))))))), ?_, ?_⟩
                  · intro h
                    exact absurd h (by omega)
                  · intro _
                    refine ⟨by rw [wpv hw16, if_neg (by decide), wpv hw12, if_neg (by decide), wpv hw11, if_neg (by decide), wpv hw8, if_pos ⟨rfl, rfl⟩]; exact ts, ?_, ?_⟩
                    · intro h
                      rw [tq_ldf (by omega) (by omega)] at h
                      cases h
                    · intro _
                      refine ⟨?_, ?_, ?_, ?_⟩
                      · rw [wpv hw16, if_neg (by decide), wpv hw12, if_neg (by decide), wpv hw11, if_pos ⟨rfl, rfl⟩, show (Int32.ofInt 1) = Int32.ofNat 1 from rfl, hn_a]
                        exact hn_t (by omega)
                      · rw [wpv hw16, if_neg (by decide), wpv hw12, if_pos ⟨rfl, rfl⟩]
                        exact htb1
                      · rw [wpv hw16, if_neg (by decide), wpv hw12, if_neg (by decide), wpv hw11, if_neg (by decide), wpv hw8, if_neg (by decide), wpv hw3, if_pos ⟨rfl, rfl⟩]
                        decide
                      · rw [wpv hw16, if_pos ⟨rfl, rfl⟩, if_pos (by simp only [tq_sg, Bool.or_eq_true, decide_eq_true_eq]; omega)]
                        decide
                · skip
                  refine hq_F.st (s' := (174, _, _, _)) hf98_171 rfl rfl rfl (hs_icn (t := 186) (ci_eqn (by omega)) rfl) ?_
                  refine hq_F.st (s' := (175, _, _, _)) hf98_174 rfl rfl rfl (hs_iln (pi_get_set _ _ _)) ?_
                  refine hq_F.st (s' := (177, _, _, _)) hf98_175 rfl rfl rfl rfl ?_
                  by_cases b177 : ((tc_b w s)).toInt = 40
                  · skip
                    refine hq_F.st (s' := (186, _, _, _)) hf98_177 rfl rfl rfl (hs_ic (ci_eq (by omega)) rfl) ?_
                    refine hq_F.st (s' := (187, _, _, _)) hf98_186 rfl rfl rfl rfl ?_
                    refine hq_F.st (s' := (191, _, _, _)) hf98_187 rfl rfl rfl rfl ?_
                    refine sy_pf hf98_191 hC12 sh_1 sk_9_66 (lo := -2147483648) (hi := 2147483647) rfl (af_i32 _) rfl rfl rfl (fun w17 hC17 hw17 => ?_)
                    refine hq_F.en hf98_194 rfl rfl ?_
                    refine ⟨rfl, hC17, (((wpF hw1).cov (by decide)).tr (((wpF hw2).cov (by decide)).tr (((wpF hw3).cov (by decide)).tr (((wpF hw8).cov (by decide)).tr (((wpF hw11).cov (by decide)).tr (((wpF hw12).cov (by decide)).tr ((wpF hw17).cov (by decide)))))))), ?_, ?_⟩
                    · intro h
                      exact absurd h (by omega)
                    · intro _
                      refine ⟨by rw [wpv hw17, if_neg (by decide), wpv hw12, if_neg (by decide), wpv hw11, if_neg (by decide), wpv hw8, if_pos ⟨rfl, rfl⟩]; exact ts, ?_, ?_⟩
                      · intro h
                        rw [tq_ldf (by omega) (by omega)] at h
                        cases h
                      · intro _
                        refine ⟨?_, ?_, ?_, ?_⟩
                        · rw [wpv hw17, if_neg (by decide), wpv hw12, if_neg (by decide), wpv hw11, if_pos ⟨rfl, rfl⟩, show (Int32.ofInt 1) = Int32.ofNat 1 from rfl, hn_a]
                          exact hn_t (by omega)
                        · rw [wpv hw17, if_neg (by decide), wpv hw12, if_pos ⟨rfl, rfl⟩]
                          exact htb1
                        · rw [wpv hw17, if_neg (by decide), wpv hw12, if_neg (by decide), wpv hw11, if_neg (by decide), wpv hw8, if_neg (by decide), wpv hw3, if_pos ⟨rfl, rfl⟩]
                          decide
                        · rw [wpv hw17, if_pos ⟨rfl, rfl⟩, if_pos (by simp only [tq_sg, Bool.or_eq_true, decide_eq_true_eq]; omega)]
                          decide
                  · skip
                    refine hq_F.st (s' := (180, _, _, _)) hf98_177 rfl rfl rfl (hs_icn (t := 186) (ci_eqn (by omega)) rfl) ?_
                    refine hq_F.st (s' := (181, _, _, _)) hf98_180 rfl rfl rfl (hs_iln (pi_get_set _ _ _)) ?_
                    refine hq_F.st (s' := (183, _, _, _)) hf98_181 rfl rfl rfl rfl ?_
                    by_cases b183 : ¬ ((tc_b w s)).toInt = 41
                    · skip
                      refine hq_F.st (s' := (190, _, _, _)) hf98_183 rfl rfl rfl (hs_ic (ci_ne (by omega)) rfl) ?_
                      refine hq_F.st (s' := (191, _, _, _)) hf98_190 rfl rfl rfl rfl ?_
                      refine sy_pf hf98_191 hC12 sh_1 sk_9_66 (lo := -2147483648) (hi := 2147483647) rfl (af_i32 _) rfl rfl rfl (fun w18 hC18 hw18 => ?_)
                      refine hq_F.en hf98_194 rfl rfl ?_
                      refine ⟨rfl, hC18, (((wpF hw1).cov (by decide)).tr (((wpF hw2).cov (by decide)).tr (((wpF hw3).cov (by decide)).tr (((wpF hw8).cov (by decide)).tr (((wpF hw11).cov (by decide)).tr (((wpF hw12).cov (by decide)).tr ((wpF hw18).cov (by decide)))))))), ?_, ?_⟩
                      · intro h
                        exact absurd h (by omega)
                      · intro _
                        refine ⟨by rw [wpv hw18, if_neg (by decide), wpv hw12, if_neg (by decide), wpv hw11, if_neg (by decide), wpv hw8, if_pos ⟨rfl, rfl⟩]; exact ts, ?_, ?_⟩
                        · intro h
                          rw [tq_ldf (by omega) (by omega)] at h
                          cases h
                        · intro _
                          refine ⟨?_, ?_, ?_, ?_⟩
                          · rw [wpv hw18, if_neg (by decide), wpv hw12, if_neg (by decide), wpv hw11, if_pos ⟨rfl, rfl⟩, show (Int32.ofInt 1) = Int32.ofNat 1 from rfl, hn_a]
                            exact hn_t (by omega)
                          · rw [wpv hw18, if_neg (by decide), wpv hw12, if_pos ⟨rfl, rfl⟩]
                            exact htb1
                          · rw [wpv hw18, if_neg (by decide), wpv hw12, if_neg (by decide), wpv hw11, if_neg (by decide), wpv hw8, if_neg (by decide), wpv hw3, if_pos ⟨rfl, rfl⟩]
                            decide
                          · rw [wpv hw18, if_pos ⟨rfl, rfl⟩, if_neg (by simp only [tq_sg, Bool.or_eq_true, decide_eq_true_eq]; omega)]
                            decide
                    · skip
                      refine hq_F.st (s' := (186, _, _, _)) hf98_183 rfl rfl rfl (hs_icn (t := 190) (ci_nen (by omega)) rfl) ?_
                      refine hq_F.st (s' := (187, _, _, _)) hf98_186 rfl rfl rfl rfl ?_
                      refine hq_F.st (s' := (191, _, _, _)) hf98_187 rfl rfl rfl rfl ?_
                      refine sy_pf hf98_191 hC12 sh_1 sk_9_66 (lo := -2147483648) (hi := 2147483647) rfl (af_i32 _) rfl rfl rfl (fun w19 hC19 hw19 => ?_)
                      refine hq_F.en hf98_194 rfl rfl ?_
                      refine ⟨rfl, hC19, (((wpF hw1).cov (by decide)).tr (((wpF hw2).cov (by decide)).tr (((wpF hw3).cov (by decide)).tr (((wpF hw8).cov (by decide)).tr (((wpF hw11).cov (by decide)).tr (((wpF hw12).cov (by decide)).tr ((wpF hw19).cov (by decide)))))))), ?_, ?_⟩
                      · intro h
                        exact absurd h (by omega)
                      · intro _
                        refine ⟨by rw [wpv hw19, if_neg (by decide), wpv hw12, if_neg (by decide), wpv hw11, if_neg (by decide), wpv hw8, if_pos ⟨rfl, rfl⟩]; exact ts, ?_, ?_⟩
                        · intro h
                          rw [tq_ldf (by omega) (by omega)] at h
                          cases h
                        · intro _
                          refine ⟨?_, ?_, ?_, ?_⟩
                          · rw [wpv hw19, if_neg (by decide), wpv hw12, if_neg (by decide), wpv hw11, if_pos ⟨rfl, rfl⟩, show (Int32.ofInt 1) = Int32.ofNat 1 from rfl, hn_a]
                            exact hn_t (by omega)
                          · rw [wpv hw19, if_neg (by decide), wpv hw12, if_pos ⟨rfl, rfl⟩]
                            exact htb1
                          · rw [wpv hw19, if_neg (by decide), wpv hw12, if_neg (by decide), wpv hw11, if_neg (by decide), wpv hw8, if_neg (by decide), wpv hw3, if_pos ⟨rfl, rfl⟩]
                            decide
                          · rw [wpv hw19, if_pos ⟨rfl, rfl⟩, if_pos (by simp only [tq_sg, Bool.or_eq_true, decide_eq_true_eq]; omega)]
                            decide
    · skip
      refine hq_F.st (s' := (70, _, _, _)) hf98_67 rfl rfl rfl (hs_icn (t := 106) (ci_ltn (by omega)) rfl) ?_
      refine hq_F.st (s' := (71, _, _, _)) hf98_70 rfl rfl rfl (hs_al g0) ?_
      refine hq_F.st (s' := (72, _, _, _)) hf98_71 rfl rfl rfl (hs_al g0) ?_
      refine hq_F.st (s' := (75, _, _, _)) hf98_72 rfl rfl rfl (hq_gf hC3 sh_1 sk_9_33 (sy_v hC3 (by decide) rfl)) ?_
      have q72 : (gv w3 1 2).toInt = (gv w 1 2).toInt := by rw [wpv hw3, if_neg (by decide), wplv hw2, if_neg (by decide), wpv hw1, if_neg (by decide)]
      refine hq_F.st (s' := (76, _, _, _)) hf98_75 rfl rfl rfl (hs_al g0) ?_
      refine hq_F.st (s' := (79, _, _, _)) hf98_76 rfl rfl rfl (hq_gf hC3 sh_1 sk_9_37 (sy_v hC3 (by decide) rfl)) ?_
      have q76 : (gv w3 1 3).toInt = (gv w 1 3).toInt := by rw [wpv hw3, if_neg (by decide), wplv hw2, if_neg (by decide), wpv hw1, if_neg (by decide)]
      by_cases b79 : ((gv w3 1 2)).toInt ≤ ((gv w3 1 3)).toInt
      · skip
        refine hq_F.st (s' := (86, _, _, _)) hf98_79 rfl rfl rfl (hs_ic (ci_le (by omega)) rfl) ?_
        refine hq_F.st (s' := (87, _, _, _)) hf98_86 rfl rfl rfl rfl ?_
        refine sy_pf hf98_87 hC3 sh_1 sk_9_66 (lo := -2147483648) (hi := 2147483647) rfl (af_i32 _) rfl rfl rfl (fun w20 hC20 hw20 => ?_)
        refine hq_F.st (s' := (91, _, _, _)) hf98_90 rfl rfl rfl (hs_al g0) ?_
        refine hq_F.st (s' := (92, _, _, _)) hf98_91 rfl rfl rfl (hs_al g0) ?_
        refine hq_F.st (s' := (95, _, _, _)) hf98_92 rfl rfl rfl (hq_gf hC20 sh_1 sk_9_33 (sy_v hC20 (by decide) rfl)) ?_
        have q92 : (gv w20 1 2).toInt = (gv w 1 2).toInt := by rw [wpv hw20, if_neg (by decide), wpv hw3, if_neg (by decide), wplv hw2, if_neg (by decide), wpv hw1, if_neg (by decide)]
        refine hq_F.st (s' := (96, _, _, _)) hf98_95 rfl rfl rfl (hs_al g0) ?_
        refine hq_F.st (s' := (99, _, _, _)) hf98_96 rfl rfl rfl (hq_gf hC20 sh_1 sk_9_37 (sy_v hC20 (by decide) rfl)) ?_
        have q96 : (gv w20 1 3).toInt = (gv w 1 3).toInt := by rw [wpv hw20, if_neg (by decide), wpv hw3, if_neg (by decide), wplv hw2, if_neg (by decide), wpv hw1, if_neg (by decide)]
        refine sy_spec hf98_99 rfl rfl si_9_69 (by decide) (by decide) (by decide) rfl ?_
        refine sy_pf hf98_102 hC20 sh_1 sk_9_75 (lo := -2147483648) (hi := 2147483647) rfl (af_i32 _) rfl rfl rfl (fun w21 hC21 hw21 => ?_)
        refine hq_F.en hf98_105 rfl rfl ?_
        refine ⟨rfl, hC21, (((wpF hw1).cov (by decide)).tr (((wpF hw2).cov (by decide)).tr (((wpF hw3).cov (by decide)).tr (((wpF hw20).cov (by decide)).tr ((wpF hw21).cov (by decide)))))), ?_, ?_⟩
        · intro _
          refine ⟨?_, ?_, ?_⟩
          · rw [wpv hw21, if_neg (by decide), wpv hw20, if_pos ⟨rfl, rfl⟩, if_neg (by omega)]
            decide
          · rw [wpv hw21, if_pos ⟨rfl, rfl⟩, sy_min, if_neg (by omega), if_neg (by omega)]
            omega
          · rw [wpv hw21, if_neg (by decide), wpv hw20, if_neg (by decide), wpv hw3, if_pos ⟨rfl, rfl⟩]
            decide
        · intro h
          exact absurd (by omega) h
      · skip
        refine hq_F.st (s' := (82, _, _, _)) hf98_79 rfl rfl rfl (hs_icn (t := 86) (ci_len (by omega)) rfl) ?_
        refine hq_F.st (s' := (83, _, _, _)) hf98_82 rfl rfl rfl rfl ?_
        refine hq_F.st (s' := (87, _, _, _)) hf98_83 rfl rfl rfl rfl ?_
        refine sy_pf hf98_87 hC3 sh_1 sk_9_66 (lo := -2147483648) (hi := 2147483647) rfl (af_i32 _) rfl rfl rfl (fun w22 hC22 hw22 => ?_)
        refine hq_F.st (s' := (91, _, _, _)) hf98_90 rfl rfl rfl (hs_al g0) ?_
        refine hq_F.st (s' := (92, _, _, _)) hf98_91 rfl rfl rfl (hs_al g0) ?_
        refine hq_F.st (s' := (95, _, _, _)) hf98_92 rfl rfl rfl (hq_gf hC22 sh_1 sk_9_33 (sy_v hC22 (by decide) rfl)) ?_
        have q92 : (gv w22 1 2).toInt = (gv w 1 2).toInt := by rw [wpv hw22, if_neg (by decide), wpv hw3, if_neg (by decide), wplv hw2, if_neg (by decide), wpv hw1, if_neg (by decide)]
        refine hq_F.st (s' := (96, _, _, _)) hf98_95 rfl rfl rfl (hs_al g0) ?_
        refine hq_F.st (s' := (99, _, _, _)) hf98_96 rfl rfl rfl (hq_gf hC22 sh_1 sk_9_37 (sy_v hC22 (by decide) rfl)) ?_
        have q96 : (gv w22 1 3).toInt = (gv w 1 3).toInt := by rw [wpv hw22, if_neg (by decide), wpv hw3, if_neg (by decide), wplv hw2, if_neg (by decide), wpv hw1, if_neg (by decide)]
        refine sy_spec hf98_99 rfl rfl si_9_69 (by decide) (by decide) (by decide) rfl ?_
        refine sy_pf hf98_102 hC22 sh_1 sk_9_75 (lo := -2147483648) (hi := 2147483647) rfl (af_i32 _) rfl rfl rfl (fun w23 hC23 hw23 => ?_)
        refine hq_F.en hf98_105 rfl rfl ?_
        refine ⟨rfl, hC23, (((wpF hw1).cov (by decide)).tr (((wpF hw2).cov (by decide)).tr (((wpF hw3).cov (by decide)).tr (((wpF hw22).cov (by decide)).tr ((wpF hw23).cov (by decide)))))), ?_, ?_⟩
        · intro _
          refine ⟨?_, ?_, ?_⟩
          · rw [wpv hw23, if_neg (by decide), wpv hw22, if_pos ⟨rfl, rfl⟩, if_pos (by omega)]
            decide
          · rw [wpv hw23, if_pos ⟨rfl, rfl⟩, sy_min, if_pos (by omega), if_pos (by omega)]
            omega
          · rw [wpv hw23, if_neg (by decide), wpv hw22, if_neg (by decide), wpv hw3, if_pos ⟨rfl, rfl⟩]
            decide
        · intro h
          exact absurd (by omega) h
/-- advance: the next TOKEN from i on -/
theorem tc_98 {d B M i : Nat} {tp : Nat → Nat} {w : pi_W} (hC : af_Conf aw_Sh w) (hP : tc_P tp B w) (hM : (gv w 1 3).toInt = (M : Int)) (h4 : (gv w 1 4).toInt = (i : Int)) (hi : i ≤ B) : hq_F (d + 2) sm98 (fun r w' => r = none ∧ af_Conf aw_Sh w' ∧ af_Fr [(1, 4, 10)] w w' ∧ tc_A tp B M (tq_sk tp B i) w w') (0, lv_args 0 [.ref 1], [], w) := by
  have g0 : pi_get (lv_args 0 [.ref 1]) 0 = some (.ref 1) := rfl
  have hB9 := hP.2.1
  have hx : gv w 1 4 = Int32.ofNat i := hn_e h4 (by omega)
  refine hq_F.st (s' := (1, _, _, _)) hf98_0 rfl rfl rfl (hs_al g0) ?_
  refine hq_F.st (s' := (4, _, _, _)) hf98_1 rfl rfl rfl (hq_gf hC sh_1 sk_9_40 (sy_v hC (by decide) rfl)) ?_
  refine hq_F.st (s' := (5, _, _, _)) hf98_4 rfl rfl rfl rfl ?_
  refine tc_skip (d := d + 1) hC hP (B - i) i (by omega) (hg_nr g0 (by decide)) (by rw [← hx]; exact (pi_get_set _ _ _)) ?_
  intro lv' k0 k1
  exact tc_98b hC hP hM (tq_sk_le hi).2 k0 k1
