/-! ===== the SENTENCE in the class; by program ===== -/
theorem sk_8_15 : pi_look pi_fT 8 15 = some (8, 1, 313) := rfl
theorem sk_8_19 : pi_look pi_fT 8 19 = some (8, 2, 314) := rfl
theorem sk_8_23 : pi_look pi_fT 8 23 = some (8, 3, 315) := rfl
theorem sk_8_42 : pi_look pi_fT 8 42 = some (9, 5, 176) := rfl
theorem sk_8_51 : pi_look pi_fT 8 51 = some (9, 9, 185) := rfl
theorem sk_8_84 : pi_look pi_fT 8 84 = some (9, 7, 180) := rfl
theorem sk_8_9 : pi_look pi_fT 8 9 = some (8, 0, 312) := rfl
theorem si_8_38 : pi_look pi_iT 8 38 = some (2, 89, 1, 1048) := rfl
theorem si_8_45 : pi_look pi_iT 8 45 = some (2, 103, 1, 1057) := rfl
theorem si_8_48 : pi_look pi_iT 8 48 = some (2, 90, 1, 1052) := rfl
theorem si_8_54 : pi_look pi_iT 8 54 = some (2, 98, 0, 1058) := rfl
theorem si_8_57 : pi_look pi_iT 8 57 = some (2, 82, 3, 1064) := rfl
theorem si_8_61 : pi_look pi_iT 8 61 = some (2, 104, 1, 1056) := rfl
theorem si_8_65 : pi_look pi_iT 8 65 = some (2, 105, 1, 1059) := rfl
theorem si_8_68 : pi_look pi_iT 8 68 = some (2, 91, 1, 1060) := rfl
theorem si_8_73 : pi_look pi_iT 8 73 = some (2, 92, 2, 1069) := rfl
theorem si_8_77 : pi_look pi_iT 8 77 = some (2, 93, 1, 1074) := rfl
theorem si_8_80 : pi_look pi_iT 8 80 = some (2, 108, 2, 1073) := rfl
def sm82 : pi_M := (7, 4, none, false, mc_82)
def sm88 : pi_M := (8, 1, (some .int), false, mc_88)
def sm89 : pi_M := (8, 4, (some .boolean), false, mc_89)
def sm90 : pi_M := (8, 4, (some .boolean), false, mc_90)
def sm91 : pi_M := (8, 2, (some .boolean), false, mc_91)
def sm92 : pi_M := (8, 4, (some .boolean), false, mc_92)
def sm93 : pi_M := (8, 3, (some .boolean), false, mc_93)
def sf_22 : List (Nat ⊕ (Int × Int) ⊕ Unit) := match (aw_Sh[22]? : Option af_C) with
  | some (.inr (_, f)) => f
  | _ => []
theorem sh_22 : aw_Sh[22]? = some (.inr (7, sf_22)) := rfl
def sf_27 : List (Nat ⊕ (Int × Int) ⊕ Unit) := match (aw_Sh[27]? : Option af_C) with
  | some (.inr (_, f)) => f
  | _ => []
theorem sh_27 : aw_Sh[27]? = some (.inr (8, sf_27)) := rfl
set_option maxRecDepth 100000 in
theorem sz_82 : pi_mt[82]? = some (mn_82, prog_9_method_4_code, (7, 4, none, false, mc_82)) := rfl
set_option maxRecDepth 100000 in
theorem sz_88 : pi_mt[88]? = some (mn_88, prog_10_method_2_code, (8, 1, (some .int), false, mc_88)) := rfl
set_option maxRecDepth 100000 in
theorem sz_89 : pi_mt[89]? = some (mn_89, prog_10_method_3_code, (8, 4, (some .boolean), false, mc_89)) := rfl
set_option maxRecDepth 100000 in
theorem sz_90 : pi_mt[90]? = some (mn_90, prog_10_method_4_code, (8, 4, (some .boolean), false, mc_90)) := rfl
set_option maxRecDepth 100000 in
theorem sz_91 : pi_mt[91]? = some (mn_91, prog_10_method_5_code, (8, 2, (some .boolean), false, mc_91)) := rfl
set_option maxRecDepth 100000 in
theorem sz_92 : pi_mt[92]? = some (mn_92, prog_10_method_6_code, (8, 4, (some .boolean), false, mc_92)) := rfl
set_option maxRecDepth 100000 in
theorem sz_93 : pi_mt[93]? = some (mn_93, prog_10_method_7_code, (8, 3, (some .boolean), false, mc_93)) := rfl
theorem hj90_0 : pi_fetch mc_90 0 = some (.aload_n 0, 1) := rfl
theorem hj90_1 : pi_fetch mc_90 1 = some (.getfield 9, 3) := rfl
theorem hj90_4 : pi_fetch mc_90 4 = some (.bipush 40, 2) := rfl
theorem hj90_6 : pi_fetch mc_90 6 = some (.invokevirtual 61, 3) := rfl
theorem hj90_9 : pi_fetch mc_90 9 = some (.istore_n 2, 1) := rfl
theorem hj90_10 : pi_fetch mc_90 10 = some (.aload_n 0, 1) := rfl
theorem hj90_11 : pi_fetch mc_90 11 = some (.getfield 9, 3) := rfl
theorem hj90_14 : pi_fetch mc_90 14 = some (.getfield 51, 3) := rfl
theorem hj90_17 : pi_fetch mc_90 17 = some (.istore_n 3, 1) := rfl
theorem hj90_18 : pi_fetch mc_90 18 = some (.iload_n 2, 1) := rfl
theorem hj90_19 : pi_fetch mc_90 19 = some (.ifCond .ne 18, 3) := rfl
theorem hj90_22 : pi_fetch mc_90 22 = some (.iload_n 3, 1) := rfl
theorem hj90_23 : pi_fetch mc_90 23 = some (.bipush 19, 2) := rfl
theorem hj90_25 : pi_fetch mc_90 25 = some (.if_icmp .ge 12, 3) := rfl
theorem hj90_28 : pi_fetch mc_90 28 = some (.aload_n 0, 1) := rfl
theorem hj90_29 : pi_fetch mc_90 29 = some (.getfield 9, 3) := rfl
theorem hj90_32 : pi_fetch mc_90 32 = some (.iconst 1, 1) := rfl
theorem hj90_33 : pi_fetch mc_90 33 = some (.invokevirtual 45, 3) := rfl
theorem hj90_36 : pi_fetch mc_90 36 = some (.ireturn, 1) := rfl
theorem hj90_37 : pi_fetch mc_90 37 = some (.aload_n 0, 1) := rfl
theorem hj90_38 : pi_fetch mc_90 38 = some (.getfield 23, 3) := rfl
theorem hj90_41 : pi_fetch mc_90 41 = some (.bipush 20, 2) := rfl
theorem hj90_43 : pi_fetch mc_90 43 = some (.if_icmp .ge 9, 3) := rfl
theorem hj90_46 : pi_fetch mc_90 46 = some (.iload_n 1, 1) := rfl
theorem hj90_47 : pi_fetch mc_90 47 = some (.bipush 8, 2) := rfl
theorem hj90_49 : pi_fetch mc_90 49 = some (.if_icmp .le 12, 3) := rfl
theorem hj90_52 : pi_fetch mc_90 52 = some (.aload_n 0, 1) := rfl
theorem hj90_53 : pi_fetch mc_90 53 = some (.getfield 9, 3) := rfl
theorem hj90_56 : pi_fetch mc_90 56 = some (.iconst 4, 1) := rfl
theorem hj90_57 : pi_fetch mc_90 57 = some (.invokevirtual 45, 3) := rfl
theorem hj90_60 : pi_fetch mc_90 60 = some (.ireturn, 1) := rfl
theorem hj90_61 : pi_fetch mc_90 61 = some (.aload_n 0, 1) := rfl
theorem hj90_62 : pi_fetch mc_90 62 = some (.dup, 1) := rfl
theorem hj90_63 : pi_fetch mc_90 63 = some (.getfield 23, 3) := rfl
theorem hj90_66 : pi_fetch mc_90 66 = some (.iconst 1, 1) := rfl
theorem hj90_67 : pi_fetch mc_90 67 = some (.iadd, 1) := rfl
theorem hj90_68 : pi_fetch mc_90 68 = some (.putfield 23, 3) := rfl
theorem hj90_71 : pi_fetch mc_90 71 = some (.aload_n 0, 1) := rfl
theorem hj90_72 : pi_fetch mc_90 72 = some (.getfield 9, 3) := rfl
theorem hj90_75 : pi_fetch mc_90 75 = some (.invokevirtual 54, 3) := rfl
theorem hj90_78 : pi_fetch mc_90 78 = some (.iload_n 2, 1) := rfl
theorem hj90_79 : pi_fetch mc_90 79 = some (.ifCond .eq 31, 3) := rfl
theorem hj90_82 : pi_fetch mc_90 82 = some (.aload_n 0, 1) := rfl
theorem hj90_83 : pi_fetch mc_90 83 = some (.iload_n 1, 1) := rfl
theorem hj90_84 : pi_fetch mc_90 84 = some (.iconst 1, 1) := rfl
theorem hj90_85 : pi_fetch mc_90 85 = some (.iadd, 1) := rfl
theorem hj90_86 : pi_fetch mc_90 86 = some (.invokevirtual 38, 3) := rfl
theorem hj90_89 : pi_fetch mc_90 89 = some (.ifCond .eq 19, 3) := rfl
theorem hj90_92 : pi_fetch mc_90 92 = some (.aload_n 0, 1) := rfl
theorem hj90_93 : pi_fetch mc_90 93 = some (.getfield 9, 3) := rfl
theorem hj90_96 : pi_fetch mc_90 96 = some (.bipush 41, 2) := rfl
theorem hj90_98 : pi_fetch mc_90 98 = some (.invokevirtual 65, 3) := rfl
theorem hj90_101 : pi_fetch mc_90 101 = some (.ifCond .eq 7, 3) := rfl
theorem hj90_104 : pi_fetch mc_90 104 = some (.iconst 1, 1) := rfl
theorem hj90_105 : pi_fetch mc_90 105 = some (.goto 4, 3) := rfl
theorem hj90_108 : pi_fetch mc_90 108 = some (.iconst 0, 1) := rfl
theorem hj90_109 : pi_fetch mc_90 109 = some (.ireturn, 1) := rfl
theorem hj90_110 : pi_fetch mc_90 110 = some (.iload_n 3, 1) := rfl
theorem hj90_111 : pi_fetch mc_90 111 = some (.tableswitch 76 19 24 #[37, 43, 43, 55, 62, 69], 37) := rfl
theorem hj90_148 : pi_fetch mc_90 148 = some (.aload_n 0, 1) := rfl
theorem hj90_149 : pi_fetch mc_90 149 = some (.iload_n 1, 1) := rfl
theorem hj90_150 : pi_fetch mc_90 150 = some (.invokevirtual 68, 3) := rfl
theorem hj90_153 : pi_fetch mc_90 153 = some (.ireturn, 1) := rfl
theorem hj90_154 : pi_fetch mc_90 154 = some (.aload_n 0, 1) := rfl
theorem hj90_155 : pi_fetch mc_90 155 = some (.getfield 19, 3) := rfl
theorem hj90_158 : pi_fetch mc_90 158 = some (.iload_n 3, 1) := rfl
theorem hj90_159 : pi_fetch mc_90 159 = some (.iconst 0, 1) := rfl
theorem hj90_160 : pi_fetch mc_90 160 = some (.iconst 0, 1) := rfl
theorem hj90_161 : pi_fetch mc_90 161 = some (.invokevirtual 57, 3) := rfl
theorem hj90_164 : pi_fetch mc_90 164 = some (.iconst 1, 1) := rfl
theorem hj90_165 : pi_fetch mc_90 165 = some (.ireturn, 1) := rfl
theorem hj90_166 : pi_fetch mc_90 166 = some (.aload_n 0, 1) := rfl
theorem hj90_167 : pi_fetch mc_90 167 = some (.iload_n 3, 1) := rfl
theorem hj90_168 : pi_fetch mc_90 168 = some (.iconst 3, 1) := rfl
theorem hj90_169 : pi_fetch mc_90 169 = some (.invokevirtual 73, 3) := rfl
theorem hj90_172 : pi_fetch mc_90 172 = some (.ireturn, 1) := rfl
theorem hj90_173 : pi_fetch mc_90 173 = some (.aload_n 0, 1) := rfl
theorem hj90_174 : pi_fetch mc_90 174 = some (.iload_n 3, 1) := rfl
theorem hj90_175 : pi_fetch mc_90 175 = some (.iconst 2, 1) := rfl
theorem hj90_176 : pi_fetch mc_90 176 = some (.invokevirtual 73, 3) := rfl
theorem hj90_179 : pi_fetch mc_90 179 = some (.ireturn, 1) := rfl
theorem hj90_180 : pi_fetch mc_90 180 = some (.aload_n 0, 1) := rfl
theorem hj90_181 : pi_fetch mc_90 181 = some (.iload_n 3, 1) := rfl
theorem hj90_182 : pi_fetch mc_90 182 = some (.iconst 0, 1) := rfl
theorem hj90_183 : pi_fetch mc_90 183 = some (.invokevirtual 73, 3) := rfl
theorem hj90_186 : pi_fetch mc_90 186 = some (.ireturn, 1) := rfl
theorem hj90_187 : pi_fetch mc_90 187 = some (.aload_n 0, 1) := rfl
theorem hj90_188 : pi_fetch mc_90 188 = some (.iload_n 3, 1) := rfl
theorem hj90_189 : pi_fetch mc_90 189 = some (.invokevirtual 77, 3) := rfl
theorem hj90_192 : pi_fetch mc_90 192 = some (.ireturn, 1) := rfl
theorem hj89_0 : pi_fetch mc_89 0 = some (.iconst 0, 1) := rfl
theorem hj89_1 : pi_fetch mc_89 1 = some (.istore_n 2, 1) := rfl
theorem hj89_2 : pi_fetch mc_89 2 = some (.iload_n 2, 1) := rfl
theorem hj89_3 : pi_fetch mc_89 3 = some (.bipush 20, 2) := rfl
theorem hj89_5 : pi_fetch mc_89 5 = some (.if_icmp .gt 109, 3) := rfl
theorem hj89_8 : pi_fetch mc_89 8 = some (.aload_n 0, 1) := rfl
theorem hj89_9 : pi_fetch mc_89 9 = some (.iload_n 1, 1) := rfl
theorem hj89_10 : pi_fetch mc_89 10 = some (.invokevirtual 48, 3) := rfl
theorem hj89_13 : pi_fetch mc_89 13 = some (.ifCond .ne 5, 3) := rfl
theorem hj89_16 : pi_fetch mc_89 16 = some (.iconst 0, 1) := rfl
theorem hj89_17 : pi_fetch mc_89 17 = some (.ireturn, 1) := rfl
theorem hj89_18 : pi_fetch mc_89 18 = some (.iconst 0, 1) := rfl
theorem hj89_19 : pi_fetch mc_89 19 = some (.istore_n 3, 1) := rfl
theorem hj89_20 : pi_fetch mc_89 20 = some (.iload_n 3, 1) := rfl
theorem hj89_21 : pi_fetch mc_89 21 = some (.bipush 20, 2) := rfl
theorem hj89_23 : pi_fetch mc_89 23 = some (.if_icmp .ge 49, 3) := rfl
theorem hj89_26 : pi_fetch mc_89 26 = some (.aload_n 0, 1) := rfl
theorem hj89_27 : pi_fetch mc_89 27 = some (.getfield 9, 3) := rfl
theorem hj89_30 : pi_fetch mc_89 30 = some (.getfield 51, 3) := rfl
theorem hj89_33 : pi_fetch mc_89 33 = some (.bipush 18, 2) := rfl
theorem hj89_35 : pi_fetch mc_89 35 = some (.if_icmp .ne 37, 3) := rfl
theorem hj89_38 : pi_fetch mc_89 38 = some (.aload_n 0, 1) := rfl
theorem hj89_39 : pi_fetch mc_89 39 = some (.getfield 9, 3) := rfl
theorem hj89_42 : pi_fetch mc_89 42 = some (.invokevirtual 54, 3) := rfl
theorem hj89_45 : pi_fetch mc_89 45 = some (.aload_n 0, 1) := rfl
theorem hj89_46 : pi_fetch mc_89 46 = some (.iload_n 1, 1) := rfl
theorem hj89_47 : pi_fetch mc_89 47 = some (.invokevirtual 48, 3) := rfl
theorem hj89_50 : pi_fetch mc_89 50 = some (.ifCond .ne 5, 3) := rfl
theorem hj89_53 : pi_fetch mc_89 53 = some (.iconst 0, 1) := rfl
theorem hj89_54 : pi_fetch mc_89 54 = some (.ireturn, 1) := rfl
theorem hj89_55 : pi_fetch mc_89 55 = some (.aload_n 0, 1) := rfl
theorem hj89_56 : pi_fetch mc_89 56 = some (.getfield 19, 3) := rfl
theorem hj89_59 : pi_fetch mc_89 59 = some (.bipush 18, 2) := rfl
theorem hj89_61 : pi_fetch mc_89 61 = some (.iconst 0, 1) := rfl
theorem hj89_62 : pi_fetch mc_89 62 = some (.iconst 0, 1) := rfl
theorem hj89_63 : pi_fetch mc_89 63 = some (.invokevirtual 57, 3) := rfl
theorem hj89_66 : pi_fetch mc_89 66 = some (.iinc 3 1, 3) := rfl
theorem hj89_69 : pi_fetch mc_89 69 = some (.goto (-49), 3) := rfl
theorem hj89_72 : pi_fetch mc_89 72 = some (.iload_n 2, 1) := rfl
theorem hj89_73 : pi_fetch mc_89 73 = some (.ifCond .le 14, 3) := rfl
theorem hj89_76 : pi_fetch mc_89 76 = some (.aload_n 0, 1) := rfl
theorem hj89_77 : pi_fetch mc_89 77 = some (.getfield 19, 3) := rfl
theorem hj89_80 : pi_fetch mc_89 80 = some (.bipush 17, 2) := rfl
theorem hj89_82 : pi_fetch mc_89 82 = some (.iconst 0, 1) := rfl
theorem hj89_83 : pi_fetch mc_89 83 = some (.iconst 0, 1) := rfl
theorem hj89_84 : pi_fetch mc_89 84 = some (.invokevirtual 57, 3) := rfl
theorem hj89_87 : pi_fetch mc_89 87 = some (.aload_n 0, 1) := rfl
theorem hj89_88 : pi_fetch mc_89 88 = some (.getfield 9, 3) := rfl
theorem hj89_91 : pi_fetch mc_89 91 = some (.getfield 51, 3) := rfl
theorem hj89_94 : pi_fetch mc_89 94 = some (.bipush 17, 2) := rfl
theorem hj89_96 : pi_fetch mc_89 96 = some (.if_icmp .eq 5, 3) := rfl
theorem hj89_99 : pi_fetch mc_89 99 = some (.iconst 1, 1) := rfl
theorem hj89_100 : pi_fetch mc_89 100 = some (.ireturn, 1) := rfl
theorem hj89_101 : pi_fetch mc_89 101 = some (.aload_n 0, 1) := rfl
theorem hj89_102 : pi_fetch mc_89 102 = some (.getfield 9, 3) := rfl
theorem hj89_105 : pi_fetch mc_89 105 = some (.invokevirtual 54, 3) := rfl
theorem hj89_108 : pi_fetch mc_89 108 = some (.iinc 2 1, 3) := rfl
theorem hj89_111 : pi_fetch mc_89 111 = some (.goto (-109), 3) := rfl
theorem hj89_114 : pi_fetch mc_89 114 = some (.iconst 0, 1) := rfl
theorem hj89_115 : pi_fetch mc_89 115 = some (.ireturn, 1) := rfl
theorem hj91_0 : pi_fetch mc_91 0 = some (.aload_n 0, 1) := rfl
theorem hj91_1 : pi_fetch mc_91 1 = some (.iload_n 1, 1) := rfl
theorem hj91_2 : pi_fetch mc_91 2 = some (.iconst 1, 1) := rfl
theorem hj91_3 : pi_fetch mc_91 3 = some (.iadd, 1) := rfl
theorem hj91_4 : pi_fetch mc_91 4 = some (.invokevirtual 48, 3) := rfl
theorem hj91_7 : pi_fetch mc_91 7 = some (.ifCond .ne 5, 3) := rfl
theorem hj91_10 : pi_fetch mc_91 10 = some (.iconst 0, 1) := rfl
theorem hj91_11 : pi_fetch mc_91 11 = some (.ireturn, 1) := rfl
theorem hj91_12 : pi_fetch mc_91 12 = some (.aload_n 0, 1) := rfl
theorem hj91_13 : pi_fetch mc_91 13 = some (.getfield 19, 3) := rfl
theorem hj91_16 : pi_fetch mc_91 16 = some (.bipush 19, 2) := rfl
theorem hj91_18 : pi_fetch mc_91 18 = some (.iconst 0, 1) := rfl
theorem hj91_19 : pi_fetch mc_91 19 = some (.iconst 0, 1) := rfl
theorem hj91_20 : pi_fetch mc_91 20 = some (.invokevirtual 57, 3) := rfl
theorem hj91_23 : pi_fetch mc_91 23 = some (.iconst 1, 1) := rfl
theorem hj91_24 : pi_fetch mc_91 24 = some (.ireturn, 1) := rfl
theorem hj92_0 : pi_fetch mc_92 0 = some (.aload_n 0, 1) := rfl
theorem hj92_1 : pi_fetch mc_92 1 = some (.getfield 9, 3) := rfl
theorem hj92_4 : pi_fetch mc_92 4 = some (.aload_n 0, 1) := rfl
theorem hj92_5 : pi_fetch mc_92 5 = some (.getfield 15, 3) := rfl
theorem hj92_8 : pi_fetch mc_92 8 = some (.iload_n 2, 1) := rfl
theorem hj92_9 : pi_fetch mc_92 9 = some (.invokevirtual 80, 3) := rfl
theorem hj92_12 : pi_fetch mc_92 12 = some (.istore_n 3, 1) := rfl
theorem hj92_13 : pi_fetch mc_92 13 = some (.iload_n 3, 1) := rfl
theorem hj92_14 : pi_fetch mc_92 14 = some (.iconst (-1), 1) := rfl
theorem hj92_15 : pi_fetch mc_92 15 = some (.if_icmp .ne 5, 3) := rfl
theorem hj92_18 : pi_fetch mc_92 18 = some (.iconst 0, 1) := rfl
theorem hj92_19 : pi_fetch mc_92 19 = some (.ireturn, 1) := rfl
theorem hj92_20 : pi_fetch mc_92 20 = some (.aload_n 0, 1) := rfl
theorem hj92_21 : pi_fetch mc_92 21 = some (.getfield 19, 3) := rfl
theorem hj92_24 : pi_fetch mc_92 24 = some (.iload_n 1, 1) := rfl
theorem hj92_25 : pi_fetch mc_92 25 = some (.iconst 0, 1) := rfl
theorem hj92_26 : pi_fetch mc_92 26 = some (.iload_n 3, 1) := rfl
theorem hj92_27 : pi_fetch mc_92 27 = some (.invokevirtual 57, 3) := rfl
theorem hj92_30 : pi_fetch mc_92 30 = some (.aload_n 0, 1) := rfl
theorem hj92_31 : pi_fetch mc_92 31 = some (.getfield 9, 3) := rfl
theorem hj92_34 : pi_fetch mc_92 34 = some (.invokevirtual 54, 3) := rfl
theorem hj92_37 : pi_fetch mc_92 37 = some (.iconst 1, 1) := rfl
theorem hj92_38 : pi_fetch mc_92 38 = some (.ireturn, 1) := rfl
theorem hj93_0 : pi_fetch mc_93 0 = some (.aload_n 0, 1) := rfl
theorem hj93_1 : pi_fetch mc_93 1 = some (.getfield 9, 3) := rfl
theorem hj93_4 : pi_fetch mc_93 4 = some (.getfield 84, 3) := rfl
theorem hj93_7 : pi_fetch mc_93 7 = some (.istore_n 2, 1) := rfl
theorem hj93_8 : pi_fetch mc_93 8 = some (.aload_n 0, 1) := rfl
theorem hj93_9 : pi_fetch mc_93 9 = some (.getfield 9, 3) := rfl
theorem hj93_12 : pi_fetch mc_93 12 = some (.bipush 60, 2) := rfl
theorem hj93_14 : pi_fetch mc_93 14 = some (.invokevirtual 61, 3) := rfl
theorem hj93_17 : pi_fetch mc_93 17 = some (.ifCond .ne 36, 3) := rfl
theorem hj93_20 : pi_fetch mc_93 20 = some (.aload_n 0, 1) := rfl
theorem hj93_21 : pi_fetch mc_93 21 = some (.getfield 9, 3) := rfl
theorem hj93_24 : pi_fetch mc_93 24 = some (.bipush 61, 2) := rfl
theorem hj93_26 : pi_fetch mc_93 26 = some (.invokevirtual 61, 3) := rfl
theorem hj93_29 : pi_fetch mc_93 29 = some (.ifCond .ne 24, 3) := rfl
theorem hj93_32 : pi_fetch mc_93 32 = some (.aload_n 0, 1) := rfl
theorem hj93_33 : pi_fetch mc_93 33 = some (.getfield 9, 3) := rfl
theorem hj93_36 : pi_fetch mc_93 36 = some (.bipush 62, 2) := rfl
theorem hj93_38 : pi_fetch mc_93 38 = some (.invokevirtual 61, 3) := rfl
theorem hj93_41 : pi_fetch mc_93 41 = some (.ifCond .ne 12, 3) := rfl
theorem hj93_44 : pi_fetch mc_93 44 = some (.aload_n 0, 1) := rfl
theorem hj93_45 : pi_fetch mc_93 45 = some (.getfield 9, 3) := rfl
theorem hj93_48 : pi_fetch mc_93 48 = some (.iconst 1, 1) := rfl
theorem hj93_49 : pi_fetch mc_93 49 = some (.invokevirtual 45, 3) := rfl
theorem hj93_52 : pi_fetch mc_93 52 = some (.ireturn, 1) := rfl
theorem hj93_53 : pi_fetch mc_93 53 = some (.aload_n 0, 1) := rfl
theorem hj93_54 : pi_fetch mc_93 54 = some (.getfield 9, 3) := rfl
theorem hj93_57 : pi_fetch mc_93 57 = some (.invokevirtual 54, 3) := rfl
theorem hj93_60 : pi_fetch mc_93 60 = some (.aload_n 0, 1) := rfl
theorem hj93_61 : pi_fetch mc_93 61 = some (.getfield 9, 3) := rfl
theorem hj93_64 : pi_fetch mc_93 64 = some (.getfield 42, 3) := rfl
theorem hj93_67 : pi_fetch mc_93 67 = some (.iconst 3, 1) := rfl
theorem hj93_68 : pi_fetch mc_93 68 = some (.if_icmp .eq 12, 3) := rfl
theorem hj93_71 : pi_fetch mc_93 71 = some (.aload_n 0, 1) := rfl
theorem hj93_72 : pi_fetch mc_93 72 = some (.getfield 9, 3) := rfl
theorem hj93_75 : pi_fetch mc_93 75 = some (.iconst 1, 1) := rfl
theorem hj93_76 : pi_fetch mc_93 76 = some (.invokevirtual 45, 3) := rfl
theorem hj93_79 : pi_fetch mc_93 79 = some (.ireturn, 1) := rfl
theorem hj93_80 : pi_fetch mc_93 80 = some (.aload_n 0, 1) := rfl
theorem hj93_81 : pi_fetch mc_93 81 = some (.getfield 19, 3) := rfl
theorem hj93_84 : pi_fetch mc_93 84 = some (.iload_n 1, 1) := rfl
theorem hj93_85 : pi_fetch mc_93 85 = some (.iload_n 2, 1) := rfl
theorem hj93_86 : pi_fetch mc_93 86 = some (.aload_n 0, 1) := rfl
theorem hj93_87 : pi_fetch mc_93 87 = some (.getfield 9, 3) := rfl
theorem hj93_90 : pi_fetch mc_93 90 = some (.getfield 84, 3) := rfl
theorem hj93_93 : pi_fetch mc_93 93 = some (.invokevirtual 57, 3) := rfl
theorem hj93_96 : pi_fetch mc_93 96 = some (.aload_n 0, 1) := rfl
theorem hj93_97 : pi_fetch mc_93 97 = some (.getfield 9, 3) := rfl
theorem hj93_100 : pi_fetch mc_93 100 = some (.invokevirtual 54, 3) := rfl
theorem hj93_103 : pi_fetch mc_93 103 = some (.iconst 1, 1) := rfl
theorem hj93_104 : pi_fetch mc_93 104 = some (.ireturn, 1) := rfl
theorem hj88_0 : pi_fetch mc_88 0 = some (.aload_n 0, 1) := rfl
theorem hj88_1 : pi_fetch mc_88 1 = some (.iconst 0, 1) := rfl
theorem hj88_2 : pi_fetch mc_88 2 = some (.putfield 23, 3) := rfl
theorem hj88_5 : pi_fetch mc_88 5 = some (.aload_n 0, 1) := rfl
theorem hj88_6 : pi_fetch mc_88 6 = some (.getfield 19, 3) := rfl
theorem hj88_9 : pi_fetch mc_88 9 = some (.invokevirtual 27, 3) := rfl
theorem hj88_12 : pi_fetch mc_88 12 = some (.aload_n 0, 1) := rfl
theorem hj88_13 : pi_fetch mc_88 13 = some (.getfield 9, 3) := rfl
theorem hj88_16 : pi_fetch mc_88 16 = some (.sipush 200, 3) := rfl
theorem hj88_19 : pi_fetch mc_88 19 = some (.invokevirtual 32, 3) := rfl
theorem hj88_22 : pi_fetch mc_88 22 = some (.aload_n 0, 1) := rfl
theorem hj88_23 : pi_fetch mc_88 23 = some (.iconst 1, 1) := rfl
theorem hj88_24 : pi_fetch mc_88 24 = some (.invokevirtual 38, 3) := rfl
theorem hj88_27 : pi_fetch mc_88 27 = some (.ifCond .ne 5, 3) := rfl
theorem hj88_30 : pi_fetch mc_88 30 = some (.iconst (-1), 1) := rfl
theorem hj88_31 : pi_fetch mc_88 31 = some (.ireturn, 1) := rfl
theorem hj88_32 : pi_fetch mc_88 32 = some (.aload_n 0, 1) := rfl
theorem hj88_33 : pi_fetch mc_88 33 = some (.getfield 9, 3) := rfl
theorem hj88_36 : pi_fetch mc_88 36 = some (.getfield 42, 3) := rfl
theorem hj88_39 : pi_fetch mc_88 39 = some (.ifCond .eq 14, 3) := rfl
theorem hj88_42 : pi_fetch mc_88 42 = some (.aload_n 0, 1) := rfl
theorem hj88_43 : pi_fetch mc_88 43 = some (.getfield 9, 3) := rfl
theorem hj88_46 : pi_fetch mc_88 46 = some (.iconst 1, 1) := rfl
theorem hj88_47 : pi_fetch mc_88 47 = some (.invokevirtual 45, 3) := rfl
theorem hj88_50 : pi_fetch mc_88 50 = some (.pop, 1) := rfl
theorem hj88_51 : pi_fetch mc_88 51 = some (.iconst (-1), 1) := rfl
theorem hj88_52 : pi_fetch mc_88 52 = some (.ireturn, 1) := rfl
theorem hj88_53 : pi_fetch mc_88 53 = some (.aload_n 0, 1) := rfl
theorem hj88_54 : pi_fetch mc_88 54 = some (.getfield 23, 3) := rfl
theorem hj88_57 : pi_fetch mc_88 57 = some (.ireturn, 1) := rfl
def sc_M : af_M := [(1, 4, 12), (22, 4, 5), (23, 0, 40), (24, 0, 40), (25, 0, 40)]
def sc_N : af_M := [(1, 4, 12), (22, 4, 5), (23, 0, 40), (24, 0, 40), (25, 0, 40), (27, 3, 4)]
theorem sc_add {d : Nat} {w : pi_W} {a b c : Int32} (hd : 3 ≤ d) (hC : af_Conf aw_Sh w) : hq_F d sm82 (fun r w' => r = none ∧ af_Conf aw_Sh w' ∧ af_Fr [(22, 4, 5), (23, 0, 40), (24, 0, 40), (25, 0, 40)] w w') (0, lv_args 0 [.ref 22, .int a, .int b, .int c], [], w) := by
  have i1 : (-2147483648 : Int) ≤ a.toInt ∧ a.toInt ≤ 2147483647 := af_i32 a
  have i2 : (-2147483648 : Int) ≤ b.toInt ∧ b.toInt ≤ 2147483647 := af_i32 b
  have i3 : (-2147483648 : Int) ≤ c.toInt ∧ c.toInt ≤ 2147483647 := af_i32 c
  refine (hq_holds ah_283 (d := d) (by omega) pz_82 (fun v => if v = 0 then a.toInt else if v = 1 then b.toInt else c.toInt) hC (show af_St 3 _ [.inr (.inl 22), .inl (0, [0]), .inl (0, [1]), .inl (0, [2])] [.ref 22, .int a, .int b, .int c] from ⟨rfl, ⟨(fun v hv => by simp at hv; omega), a, rfl, by simp [af_ev]⟩, ⟨(fun v hv => by simp at hv; omega), b, rfl, by simp [af_ev]⟩, ⟨(fun v hv => by simp at hv; omega), c, rfl, by simp [af_ev]⟩, trivial⟩) (fun e he => by cases he) ⟨?_, (fun e he => by cases he), (fun e he => by cases he)⟩).imp ?_
  · intro e he
    simp only [ak_283, List.mem_cons, List.not_mem_nil, or_false] at he
    rcases he with rfl | rfl | rfl <;> refine ⟨by decide, ?_⟩ <;> simp <;> omega
  · rintro r w' ⟨q1, q2, P, hPm, ρ2, -, hst, -⟩
    simp only [ak_283, List.mem_singleton] at hPm
    subst hPm
    have hn := af_St.nil hst
    refine ⟨?_, q1, q2⟩
    cases r with
    | none => rfl
    | some v => cases hn
theorem sc_named {d B M nr so : Nat} {tp : Nat → Nat} {A : ld_A} {NT : List nt_E} {w : pi_W} {t : tq_T} {x y : Int32} (h : CT tp B M w t) (hL : CL w 5 6 A nr NT) (ho : nt_ok NT) (hso : nt_c so NT ≤ 10) (hy : y.toInt = (so : Int)) : hq_F (d + 4) sm92 (fun r w' => af_Conf aw_Sh w' ∧ af_Fr sc_M w w' ∧ ((r = some (.int 1) ∧ gv w' 1 10 = gv w 1 10 ∧ ∃ k, ls_look so t NT = .inr k ∧ CT tp B M w' (tq_nx tp B M t)) ∨ (r = some (.int 0) ∧ ∃ k p, ls_look so t NT = .inl (k, p) ∧ FC w' k p))) (0, lv_args 0 [.ref 27, .int x, .int y], [], w) := by
  have g0 : pi_get (lv_args 0 [.ref 27, .int x, .int y]) 0 = some (.ref 27) := rfl
  have g1 : pi_get (lv_args 0 [.ref 27, .int x, .int y]) 1 = some (.int x) := rfl
  have g2 : pi_get (lv_args 0 [.ref 27, .int x, .int y]) 2 = some (.int y) := rfl
  have kc0 : ((-1 : Int32)).toInt = (-1) := by decide
  have kc1 : ((0 : Int32)).toInt = 0 := by decide
  have kc2 : ((1 : Int32)).toInt = 1 := by decide
  have kc3 : ((Int32.ofInt (-1))).toInt = (-1) := by decide
  have kc4 : ((Int32.ofInt 0)).toInt = 0 := by decide
  have kc5 : ((Int32.ofInt 1)).toInt = 1 := by decide
  have kz := sy_z0
  refine hq_F.st (s' := (1, _, _, _)) hj92_0 rfl rfl rfl (hs_al g0) ?_
  refine hq_F.st (s' := (4, _, _, _)) hj92_1 rfl rfl rfl (hq_gf h.1 sh_27 sk_8_9 (hq_ref h.1 sh_27 (b := 1) rfl)) ?_
  refine hq_F.st (s' := (5, _, _, _)) hj92_4 rfl rfl rfl (hs_al g0) ?_
  refine hq_F.st (s' := (8, _, _, _)) hj92_5 rfl rfl rfl (hq_gf h.1 sh_27 sk_8_15 (hq_ref h.1 sh_27 (b := 4) rfl)) ?_
  refine hq_F.st (s' := (9, _, _, _)) hj92_8 rfl rfl rfl (hs_iln g2) ?_
  refine hq_F.call hj92_9 rfl rfl si_8_80 (by decide) (by decide) sz_108 (sy_argsV h.1 sh_1 rfl rfl rfl (Nat.le_of_ble_eq_true rfl) rfl (Nat.le_of_ble_eq_true rfl) rfl (by decide)) (cn_nh_l (d := d + 1) (s := so) h hL.1 ho hy) (fun r w' q => by rcases q with ⟨q, _⟩ | ⟨_, q, _⟩; rw [q]; rw [q.1.1, h.1.1]) ?_
  rintro r9 w2 q
  try dsimp only
  rcases q with ⟨rfl, v2, rfl, n2, e2, f2⟩ | ⟨rfl, h2, F2, q⟩
  · obtain ⟨b, hb, rfl, lb⟩ := ls_look_in ho hso n2 e2 f2
    have tb : (Int32.ofNat b).toInt = (b : Int) := hn_t (by omega)
    refine hq_F.st (s' := (13, _, _, _)) hj92_12 rfl rfl rfl rfl ?_
    refine hq_F.st (s' := (14, _, _, _)) hj92_13 rfl rfl rfl (hs_iln (pi_get_set _ _ _)) ?_
    refine hq_F.st (s' := (15, _, _, _)) hj92_14 rfl rfl rfl rfl ?_
    refine hq_F.st (s' := (20, _, _, _)) hj92_15 rfl rfl rfl (hs_ic (ci_ne (by omega)) rfl) ?_
    refine hq_F.st (s' := (21, _, _, _)) hj92_20 rfl rfl rfl (hs_al (hg_nr g0 (by decide))) ?_
    refine hq_F.st (s' := (24, _, _, _)) hj92_21 rfl rfl rfl (hq_gf h.1 sh_27 sk_8_19 (hq_ref h.1 sh_27 (b := 22) rfl)) ?_
    refine hq_F.st (s' := (25, _, _, _)) hj92_24 rfl rfl rfl (hs_iln (hg_ne g1 (by decide))) ?_
    refine hq_F.st (s' := (26, _, _, _)) hj92_25 rfl rfl rfl rfl ?_
    refine hq_F.st (s' := (27, _, _, _)) hj92_26 rfl rfl rfl (hs_iln (pi_get_set _ _ _)) ?_
    refine hq_F.call hj92_27 rfl rfl si_8_57 (by decide) (by decide) sz_82 (sy_argsV h.1 sh_22 rfl rfl rfl (Nat.le_of_ble_eq_true rfl) rfl (Nat.le_of_ble_eq_true rfl) rfl (by decide)) (sc_add (d := d + 3) (by omega) h.1) (fun _ _ q => by rw [q.2.1.1, h.1.1]) ?_
    rintro r27 w3 ⟨rfl, hC3, F3⟩
    try dsimp only
    refine hq_F.st (s' := (31, _, _, _)) hj92_30 rfl rfl rfl (hs_al (hg_nr g0 (by decide))) ?_
    refine hq_F.st (s' := (34, _, _, _)) hj92_31 rfl rfl rfl (hq_gf hC3 sh_27 sk_8_9 (hq_ref hC3 sh_27 (b := 1) rfl)) ?_
    refine hq_F.call hj92_34 rfl rfl si_8_54 (by decide) (by decide) sz_98 (sy_argsV hC3 sh_1 rfl rfl rfl (Nat.le_of_ble_eq_true rfl) rfl (Nat.le_of_ble_eq_true rfl) rfl (by decide)) (ct_adv (d := d + 1) (h.fr hC3 F3 rfl) (by have := n2.1; omega)) (fun _ _ q => by rw [q.2.1.1.1, hC3.1]) ?_
    rintro r34 w4 ⟨rfl, h4, F4⟩
    try dsimp only
    refine hq_F.st (s' := (38, _, _, _)) hj92_37 rfl rfl rfl rfl ?_
    refine hq_F.en hj92_38 rfl rfl ?_
    exact ⟨h4.1, (F3.cov (by decide)).tr (F4.cov (by decide)), Or.inl ⟨rfl, (gv_eq (F4 1 10 (by decide))).trans (gv_eq (hq_cell F3 (by decide))), b, lb, h4⟩⟩
  · skip
    refine hq_F.st (s' := (13, _, _, _)) hj92_12 rfl rfl rfl rfl ?_
    refine hq_F.st (s' := (14, _, _, _)) hj92_13 rfl rfl rfl (hs_iln (pi_get_set _ _ _)) ?_
    refine hq_F.st (s' := (15, _, _, _)) hj92_14 rfl rfl rfl rfl ?_
    refine hq_F.st (s' := (18, _, _, _)) hj92_15 rfl rfl rfl (hs_icn (t := 20) (ci_nen (by omega)) rfl) ?_
    refine hq_F.st (s' := (19, _, _, _)) hj92_18 rfl rfl rfl rfl ?_
    refine hq_F.en hj92_19 rfl rfl ?_
    rcases q with ⟨q1, q2⟩ | ⟨q1, q2, q3⟩
    · exact ⟨h2.1, F2.cov (by decide), Or.inr ⟨rfl, 1, t.2.1, ls_look_1 q1, q2⟩⟩
    · exact ⟨h2.1, F2.cov (by decide), Or.inr ⟨rfl, 3, t.2.1, ls_look_3 q1 q2, q3⟩⟩
def sn_cmp (tp : Nat → Nat) (B M : Nat) (t : tq_T) : (Int × Nat) ⊕ tq_T := if t.1 = 4 ∧ 60 ≤ t.2.2.1 ∧ t.2.2.1 ≤ 62 then (if (tq_nx tp B M t).1 = 3 then .inr (tq_nx tp B M (tq_nx tp B M t)) else .inl (1, (tq_nx tp B M t).2.1)) else .inl (1, t.2.1)
theorem sc_cmp {d B M : Nat} {tp : Nat → Nat} {w : pi_W} {t : tq_T} {x : Int32} (h : CT tp B M w t) : hq_F (d + 4) sm93 (fun r w' => af_Conf aw_Sh w' ∧ af_Fr sc_M w w' ∧ ((r = some (.int 1) ∧ gv w' 1 10 = gv w 1 10 ∧ ∃ t2, sn_cmp tp B M t = .inr t2 ∧ CT tp B M w' t2) ∨ (r = some (.int 0) ∧ ∃ k p, sn_cmp tp B M t = .inl (k, p) ∧ FC w' k p))) (0, lv_args 0 [.ref 27, .int x], [], w) := by
  have g0 : pi_get (lv_args 0 [.ref 27, .int x]) 0 = some (.ref 27) := rfl
  have g1 : pi_get (lv_args 0 [.ref 27, .int x]) 1 = some (.int x) := rfl
  have kc0 : (((Int8.ofInt 60).toInt32)).toInt = 60 := by decide
  have kc1 : (((Int8.ofInt 61).toInt32)).toInt = 61 := by decide
  have kc2 : (((Int8.ofInt 62).toInt32)).toInt = 62 := by decide
  have kc3 : ((0 : Int32)).toInt = 0 := by decide
  have kc4 : ((1 : Int32)).toInt = 1 := by decide
  have kc5 : ((Int32.ofInt 1)).toInt = 1 := by decide
  have kc6 : ((Int32.ofInt 3)).toInt = 3 := by decide
  have kz := sy_z0
  refine hq_F.st (s' := (1, _, _, _)) hj93_0 rfl rfl rfl (hs_al g0) ?_
  refine hq_F.st (s' := (4, _, _, _)) hj93_1 rfl rfl rfl (hq_gf h.1 sh_27 sk_8_9 (hq_ref h.1 sh_27 (b := 1) rfl)) ?_
  refine hq_F.st (s' := (7, _, _, _)) hj93_4 rfl rfl rfl (hq_gf h.1 sh_1 sk_8_84 (sy_v h.1 (by decide) rfl)) ?_
  refine hq_F.st (s' := (8, _, _, _)) hj93_7 rfl rfl rfl rfl ?_
  refine hq_F.st (s' := (9, _, _, _)) hj93_8 rfl rfl rfl (hs_al (hg_nr g0 (by decide))) ?_
  refine hq_F.st (s' := (12, _, _, _)) hj93_9 rfl rfl rfl (hq_gf h.1 sh_27 sk_8_9 (hq_ref h.1 sh_27 (b := 1) rfl)) ?_
  refine hq_F.st (s' := (14, _, _, _)) hj93_12 rfl rfl rfl rfl ?_
  refine hq_F.call hj93_14 rfl rfl si_8_61 (by decide) (by decide) sz_104 (sy_argsV h.1 sh_1 rfl rfl rfl (Nat.le_of_ble_eq_true rfl) rfl (Nat.le_of_ble_eq_true rfl) rfl (by decide)) (ct_isS (c := 60) h (by decide)) (fun _ _ q => by rw [q.1]) ?_
  rintro r14 w ⟨rfl, rfl⟩
  try dsimp only
  by_cases hs60 : t.1 = 4 ∧ t.2.2.1 = 60
  · rw [decide_eq_true hs60, show tq_b true = (1 : Int32) from rfl]
    refine hq_F.st (s' := (53, _, _, _)) hj93_17 rfl rfl rfl (hs_if (ci_ne (by omega)) rfl) ?_
    refine hq_F.st (s' := (54, _, _, _)) hj93_53 rfl rfl rfl (hs_al (hg_nr g0 (by decide))) ?_
    refine hq_F.st (s' := (57, _, _, _)) hj93_54 rfl rfl rfl (hq_gf h.1 sh_27 sk_8_9 (hq_ref h.1 sh_27 (b := 1) rfl)) ?_
    refine hq_F.call hj93_57 rfl rfl si_8_54 (by decide) (by decide) sz_98 (sy_argsV h.1 sh_1 rfl rfl rfl (Nat.le_of_ble_eq_true rfl) rfl (Nat.le_of_ble_eq_true rfl) rfl (by decide)) (ct_adv (d := d + 1) h (by omega)) (fun _ _ q => by rw [q.2.1.1.1, h.1.1]) ?_
    rintro r57 w1 ⟨rfl, h1, F1⟩
    try dsimp only
    refine hq_F.st (s' := (61, _, _, _)) hj93_60 rfl rfl rfl (hs_al (hg_nr g0 (by decide))) ?_
    refine hq_F.st (s' := (64, _, _, _)) hj93_61 rfl rfl rfl (hq_gf h1.1 sh_27 sk_8_9 (hq_ref h1.1 sh_27 (b := 1) rfl)) ?_
    refine hq_F.st (s' := (67, _, _, _)) hj93_64 rfl rfl rfl (hq_gf h1.1 sh_1 sk_8_42 (sy_v h1.1 (by decide) rfl)) ?_
    refine hq_F.st (s' := (68, _, _, _)) hj93_67 rfl rfl rfl rfl ?_
    have hk1 := h1.2.2.2.2.1.1
    by_cases b68 : ((gv w1 1 5)).toInt = 3
    · skip
      refine hq_F.st (s' := (80, _, _, _)) hj93_68 rfl rfl rfl (hs_ic (ci_eq (by omega)) rfl) ?_
      refine hq_F.st (s' := (81, _, _, _)) hj93_80 rfl rfl rfl (hs_al (hg_nr g0 (by decide))) ?_
      refine hq_F.st (s' := (84, _, _, _)) hj93_81 rfl rfl rfl (hq_gf h1.1 sh_27 sk_8_19 (hq_ref h1.1 sh_27 (b := 22) rfl)) ?_
      refine hq_F.st (s' := (85, _, _, _)) hj93_84 rfl rfl rfl (hs_iln (hg_ne g1 (by decide))) ?_
      refine hq_F.st (s' := (86, _, _, _)) hj93_85 rfl rfl rfl (hs_iln (pi_get_set _ _ _)) ?_
      refine hq_F.st (s' := (87, _, _, _)) hj93_86 rfl rfl rfl (hs_al (hg_nr g0 (by decide))) ?_
      refine hq_F.st (s' := (90, _, _, _)) hj93_87 rfl rfl rfl (hq_gf h1.1 sh_27 sk_8_9 (hq_ref h1.1 sh_27 (b := 1) rfl)) ?_
      refine hq_F.st (s' := (93, _, _, _)) hj93_90 rfl rfl rfl (hq_gf h1.1 sh_1 sk_8_84 (sy_v h1.1 (by decide) rfl)) ?_
      refine hq_F.call hj93_93 rfl rfl si_8_57 (by decide) (by decide) sz_82 (sy_argsV h1.1 sh_22 rfl rfl rfl (Nat.le_of_ble_eq_true rfl) rfl (Nat.le_of_ble_eq_true rfl) rfl (by decide)) (sc_add (d := d + 3) (by omega) h1.1) (fun _ _ q => by rw [q.2.1.1, h1.1.1]) ?_
      rintro r93 w3 ⟨rfl, hC3, F3⟩
      try dsimp only
      refine hq_F.st (s' := (97, _, _, _)) hj93_96 rfl rfl rfl (hs_al (hg_nr g0 (by decide))) ?_
      refine hq_F.st (s' := (100, _, _, _)) hj93_97 rfl rfl rfl (hq_gf hC3 sh_27 sk_8_9 (hq_ref hC3 sh_27 (b := 1) rfl)) ?_
      refine hq_F.call hj93_100 rfl rfl si_8_54 (by decide) (by decide) sz_98 (sy_argsV hC3 sh_1 rfl rfl rfl (Nat.le_of_ble_eq_true rfl) rfl (Nat.le_of_ble_eq_true rfl) rfl (by decide)) (ct_adv (d := d + 1) (h1.fr hC3 F3 rfl) (by omega)) (fun _ _ q => by rw [q.2.1.1.1, hC3.1]) ?_
      rintro r100 w4 ⟨rfl, h4, F4⟩
      try dsimp only
      refine hq_F.st (s' := (104, _, _, _)) hj93_103 rfl rfl rfl rfl ?_
      refine hq_F.en hj93_104 rfl rfl ?_
      exact ⟨h4.1, (F1.cov (by decide)).tr ((F3.cov (by decide)).tr (F4.cov (by decide))), Or.inl ⟨rfl, (gv_eq (F4 1 10 (by decide))).trans ((gv_eq (hq_cell F3 (by decide))).trans (gv_eq (F1 1 10 (by decide)))), _, by unfold sn_cmp; rw [if_pos (by omega), if_pos (by omega)], h4⟩⟩
    · skip
      refine hq_F.st (s' := (71, _, _, _)) hj93_68 rfl rfl rfl (hs_icn (t := 80) (ci_eqn (by omega)) rfl) ?_
      refine hq_F.st (s' := (72, _, _, _)) hj93_71 rfl rfl rfl (hs_al (hg_nr g0 (by decide))) ?_
      refine hq_F.st (s' := (75, _, _, _)) hj93_72 rfl rfl rfl (hq_gf h1.1 sh_27 sk_8_9 (hq_ref h1.1 sh_27 (b := 1) rfl)) ?_
      refine hq_F.st (s' := (76, _, _, _)) hj93_75 rfl rfl rfl rfl ?_
      refine hq_F.call hj93_76 rfl rfl si_8_45 (by decide) (by decide) sz_103 (sy_argsV h1.1 sh_1 rfl rfl rfl (Nat.le_of_ble_eq_true rfl) rfl (Nat.le_of_ble_eq_true rfl) rfl (by decide)) (ct_ref h1 ((Int32.ofInt 1))) (fun _ _ q => by rw [q.2.1.1.1, h1.1.1]) ?_
      rintro r76 w9 ⟨rfl, k1, k2, k3, k4⟩
      try dsimp only
      refine hq_F.en hj93_79 rfl rfl ?_
      exact ⟨k1.1, (F1.cov (by decide)).tr (k2.cov (by decide)), Or.inr ⟨rfl, 1, (tq_nx tp B M t).2.1, by unfold sn_cmp; rw [if_pos (by omega), if_neg (by omega)], by rw [k3]; decide, k4⟩⟩
  · rw [decide_eq_false hs60, show tq_b false = (0 : Int32) from rfl]
    refine hq_F.st (s' := (20, _, _, _)) hj93_17 rfl rfl rfl (hs_ifn (t := 53) (ci_nen (by omega)) rfl) ?_
    refine hq_F.st (s' := (21, _, _, _)) hj93_20 rfl rfl rfl (hs_al (hg_nr g0 (by decide))) ?_
    refine hq_F.st (s' := (24, _, _, _)) hj93_21 rfl rfl rfl (hq_gf h.1 sh_27 sk_8_9 (hq_ref h.1 sh_27 (b := 1) rfl)) ?_
    refine hq_F.st (s' := (26, _, _, _)) hj93_24 rfl rfl rfl rfl ?_
    refine hq_F.call hj93_26 rfl rfl si_8_61 (by decide) (by decide) sz_104 (sy_argsV h.1 sh_1 rfl rfl rfl (Nat.le_of_ble_eq_true rfl) rfl (Nat.le_of_ble_eq_true rfl) rfl (by decide)) (ct_isS (c := 61) h (by decide)) (fun _ _ q => by rw [q.1]) ?_
    rintro r26 w ⟨rfl, rfl⟩
    try dsimp only
    by_cases hs61 : t.1 = 4 ∧ t.2.2.1 = 61
    · rw [decide_eq_true hs61, show tq_b true = (1 : Int32) from rfl]
      refine hq_F.st (s' := (53, _, _, _)) hj93_29 rfl rfl rfl (hs_if (ci_ne (by omega)) rfl) ?_
      refine hq_F.st (s' := (54, _, _, _)) hj93_53 rfl rfl rfl (hs_al (hg_nr g0 (by decide))) ?_
      refine hq_F.st (s' := (57, _, _, _)) hj93_54 rfl rfl rfl (hq_gf h.1 sh_27 sk_8_9 (hq_ref h.1 sh_27 (b := 1) rfl)) ?_
      refine hq_F.call hj93_57 rfl rfl si_8_54 (by decide) (by decide) sz_98 (sy_argsV h.1 sh_1 rfl rfl rfl (Nat.le_of_ble_eq_true rfl) rfl (Nat.le_of_ble_eq_true rfl) rfl (by decide)) (ct_adv (d := d + 1) h (by omega)) (fun _ _ q => by rw [q.2.1.1.1, h.1.1]) ?_
      rintro r57 w1 ⟨rfl, h1, F1⟩
      try dsimp only
      refine hq_F.st (s' := (61, _, _, _)) hj93_60 rfl rfl rfl (hs_al (hg_nr g0 (by decide))) ?_
      refine hq_F.st (s' := (64, _, _, _)) hj93_61 rfl rfl rfl (hq_gf h1.1 sh_27 sk_8_9 (hq_ref h1.1 sh_27 (b := 1) rfl)) ?_
      refine hq_F.st (s' := (67, _, _, _)) hj93_64 rfl rfl rfl (hq_gf h1.1 sh_1 sk_8_42 (sy_v h1.1 (by decide) rfl)) ?_
      refine hq_F.st (s' := (68, _, _, _)) hj93_67 rfl rfl rfl rfl ?_
      have hk1 := h1.2.2.2.2.1.1
      by_cases b68 : ((gv w1 1 5)).toInt = 3
      · skip
        refine hq_F.st (s' := (80, _, _, _)) hj93_68 rfl rfl rfl (hs_ic (ci_eq (by omega)) rfl) ?_
        refine hq_F.st (s' := (81, _, _, _)) hj93_80 rfl rfl rfl (hs_al (hg_nr g0 (by decide))) ?_
        refine hq_F.st (s' := (84, _, _, _)) hj93_81 rfl rfl rfl (hq_gf h1.1 sh_27 sk_8_19 (hq_ref h1.1 sh_27 (b := 22) rfl)) ?_
        refine hq_F.st (s' := (85, _, _, _)) hj93_84 rfl rfl rfl (hs_iln (hg_ne g1 (by decide))) ?_
        refine hq_F.st (s' := (86, _, _, _)) hj93_85 rfl rfl rfl (hs_iln (pi_get_set _ _ _)) ?_
        refine hq_F.st (s' := (87, _, _, _)) hj93_86 rfl rfl rfl (hs_al (hg_nr g0 (by decide))) ?_
        refine hq_F.st (s' := (90, _, _, _)) hj93_87 rfl rfl rfl (hq_gf h1.1 sh_27 sk_8_9 (hq_ref h1.1 sh_27 (b := 1) rfl)) ?_
        refine hq_F.st (s' := (93, _, _, _)) hj93_90 rfl rfl rfl (hq_gf h1.1 sh_1 sk_8_84 (sy_v h1.1 (by decide) rfl)) ?_
        refine hq_F.call hj93_93 rfl rfl si_8_57 (by decide) (by decide) sz_82 (sy_argsV h1.1 sh_22 rfl rfl rfl (Nat.le_of_ble_eq_true rfl) rfl (Nat.le_of_ble_eq_true rfl) rfl (by decide)) (sc_add (d := d + 3) (by omega) h1.1) (fun _ _ q => by rw [q.2.1.1, h1.1.1]) ?_
        rintro r93 w3 ⟨rfl, hC3, F3⟩
        try dsimp only
        refine hq_F.st (s' := (97, _, _, _)) hj93_96 rfl rfl rfl (hs_al (hg_nr g0 (by decide))) ?_
        refine hq_F.st (s' := (100, _, _, _)) hj93_97 rfl rfl rfl (hq_gf hC3 sh_27 sk_8_9 (hq_ref hC3 sh_27 (b := 1) rfl)) ?_
        refine hq_F.call hj93_100 rfl rfl si_8_54 (by decide) (by decide) sz_98 (sy_argsV hC3 sh_1 rfl rfl rfl (Nat.le_of_ble_eq_true rfl) rfl (Nat.le_of_ble_eq_true rfl) rfl (by decide)) (ct_adv (d := d + 1) (h1.fr hC3 F3 rfl) (by omega)) (fun _ _ q => by rw [q.2.1.1.1, hC3.1]) ?_
        rintro r100 w4 ⟨rfl, h4, F4⟩
        try dsimp only
        refine hq_F.st (s' := (104, _, _, _)) hj93_103 rfl rfl rfl rfl ?_
        refine hq_F.en hj93_104 rfl rfl ?_
        exact ⟨h4.1, (F1.cov (by decide)).tr ((F3.cov (by decide)).tr (F4.cov (by decide))), Or.inl ⟨rfl, (gv_eq (F4 1 10 (by decide))).trans ((gv_eq (hq_cell F3 (by decide))).trans (gv_eq (F1 1 10 (by decide)))), _, by unfold sn_cmp; rw [if_pos (by omega), if_pos (by omega)], h4⟩⟩
      · skip
        refine hq_F.st (s' := (71, _, _, _)) hj93_68 rfl rfl rfl (hs_icn (t := 80) (ci_eqn (by omega)) rfl) ?_
        refine hq_F.st (s' := (72, _, _, _)) hj93_71 rfl rfl rfl (hs_al (hg_nr g0 (by decide))) ?_
        refine hq_F.st (s' := (75, _, _, _)) hj93_72 rfl rfl rfl (hq_gf h1.1 sh_27 sk_8_9 (hq_ref h1.1 sh_27 (b := 1) rfl)) ?_
        refine hq_F.st (s' := (76, _, _, _)) hj93_75 rfl rfl rfl rfl ?_
        refine hq_F.call hj93_76 rfl rfl si_8_45 (by decide) (by decide) sz_103 (sy_argsV h1.1 sh_1 rfl rfl rfl (Nat.le_of_ble_eq_true rfl) rfl (Nat.le_of_ble_eq_true rfl) rfl (by decide)) (ct_ref h1 ((Int32.ofInt 1))) (fun _ _ q => by rw [q.2.1.1.1, h1.1.1]) ?_
        rintro r76 w9 ⟨rfl, k1, k2, k3, k4⟩
        try dsimp only
        refine hq_F.en hj93_79 rfl rfl ?_
        exact ⟨k1.1, (F1.cov (by decide)).tr (k2.cov (by decide)), Or.inr ⟨rfl, 1, (tq_nx tp B M t).2.1, by unfold sn_cmp; rw [if_pos (by omega), if_neg (by omega)], by rw [k3]; decide, k4⟩⟩
    · rw [decide_eq_false hs61, show tq_b false = (0 : Int32) from rfl]
      refine hq_F.st (s' := (32, _, _, _)) hj93_29 rfl rfl rfl (hs_ifn (t := 53) (ci_nen (by omega)) rfl) ?_
      refine hq_F.st (s' := (33, _, _, _)) hj93_32 rfl rfl rfl (hs_al (hg_nr g0 (by decide))) ?_
      refine hq_F.st (s' := (36, _, _, _)) hj93_33 rfl rfl rfl (hq_gf h.1 sh_27 sk_8_9 (hq_ref h.1 sh_27 (b := 1) rfl)) ?_
      refine hq_F.st (s' := (38, _, _, _)) hj93_36 rfl rfl rfl rfl ?_
      refine hq_F.call hj93_38 rfl rfl si_8_61 (by decide) (by decide) sz_104 (sy_argsV h.1 sh_1 rfl rfl rfl (Nat.le_of_ble_eq_true rfl) rfl (Nat.le_of_ble_eq_true rfl) rfl (by decide)) (ct_isS (c := 62) h (by decide)) (fun _ _ q => by rw [q.1]) ?_
      rintro r38 w ⟨rfl, rfl⟩
      try dsimp only
      by_cases hs62 : t.1 = 4 ∧ t.2.2.1 = 62
      · rw [decide_eq_true hs62, show tq_b true = (1 : Int32) from rfl]
        refine hq_F.st (s' := (53, _, _, _)) hj93_41 rfl rfl rfl (hs_if (ci_ne (by omega)) rfl) ?_
        refine hq_F.st (s' := (54, _, _, _)) hj93_53 rfl rfl rfl (hs_al (hg_nr g0 (by decide))) ?_
        refine hq_F.st (s' := (57, _, _, _)) hj93_54 rfl rfl rfl (hq_gf h.1 sh_27 sk_8_9 (hq_ref h.1 sh_27 (b := 1) rfl)) ?_
        refine hq_F.call hj93_57 rfl rfl si_8_54 (by decide) (by decide) sz_98 (sy_argsV h.1 sh_1 rfl rfl rfl (Nat.le_of_ble_eq_true rfl) rfl (Nat.le_of_ble_eq_true rfl) rfl (by decide)) (ct_adv (d := d + 1) h (by omega)) (fun _ _ q => by rw [q.2.1.1.1, h.1.1]) ?_
        rintro r57 w1 ⟨rfl, h1, F1⟩
        try dsimp only
        refine hq_F.st (s' := (61, _, _, _)) hj93_60 rfl rfl rfl (hs_al (hg_nr g0 (by decide))) ?_
        refine hq_F.st (s' := (64, _, _, _)) hj93_61 rfl rfl rfl (hq_gf h1.1 sh_27 sk_8_9 (hq_ref h1.1 sh_27 (b := 1) rfl)) ?_
        refine hq_F.st (s' := (67, _, _, _)) hj93_64 rfl rfl rfl (hq_gf h1.1 sh_1 sk_8_42 (sy_v h1.1 (by decide) rfl)) ?_
        refine hq_F.st (s' := (68, _, _, _)) hj93_67 rfl rfl rfl rfl ?_
        have hk1 := h1.2.2.2.2.1.1
        by_cases b68 : ((gv w1 1 5)).toInt = 3
        · skip
          refine hq_F.st (s' := (80, _, _, _)) hj93_68 rfl rfl rfl (hs_ic (ci_eq (by omega)) rfl) ?_
          refine hq_F.st (s' := (81, _, _, _)) hj93_80 rfl rfl rfl (hs_al (hg_nr g0 (by decide))) ?_
          refine hq_F.st (s' := (84, _, _, _)) hj93_81 rfl rfl rfl (hq_gf h1.1 sh_27 sk_8_19 (hq_ref h1.1 sh_27 (b := 22) rfl)) ?_
          refine hq_F.st (s' := (85, _, _, _)) hj93_84 rfl rfl rfl (hs_iln (hg_ne g1 (by decide))) ?_
          refine hq_F.st (s' := (86, _, _, _)) hj93_85 rfl rfl rfl (hs_iln (pi_get_set _ _ _)) ?_
          refine hq_F.st (s' := (87, _, _, _)) hj93_86 rfl rfl rfl (hs_al (hg_nr g0 (by decide))) ?_
          refine hq_F.st (s' := (90, _, _, _)) hj93_87 rfl rfl rfl (hq_gf h1.1 sh_27 sk_8_9 (hq_ref h1.1 sh_27 (b := 1) rfl)) ?_
          refine hq_F.st (s' := (93, _, _, _)) hj93_90 rfl rfl rfl (hq_gf h1.1 sh_1 sk_8_84 (sy_v h1.1 (by decide) rfl)) ?_
          refine hq_F.call hj93_93 rfl rfl si_8_57 (by decide) (by decide) sz_82 (sy_argsV h1.1 sh_22 rfl rfl rfl (Nat.le_of_ble_eq_true rfl) rfl (Nat.le_of_ble_eq_true rfl) rfl (by decide)) (sc_add (d := d + 3) (by omega) h1.1) (fun _ _ q => by rw [q.2.1.1, h1.1.1]) ?_
          rintro r93 w3 ⟨rfl, hC3, F3⟩
          try dsimp only
          refine hq_F.st (s' := (97, _, _, _)) hj93_96 rfl rfl rfl (hs_al (hg_nr g0 (by decide))) ?_
          refine hq_F.st (s' := (100, _, _, _)) hj93_97 rfl rfl rfl (hq_gf hC3 sh_27 sk_8_9 (hq_ref hC3 sh_27 (b := 1) rfl)) ?_
          refine hq_F.call hj93_100 rfl rfl si_8_54 (by decide) (by decide) sz_98 (sy_argsV hC3 sh_1 rfl rfl rfl (Nat.le_of_ble_eq_true rfl) rfl (Nat.le_of_ble_eq_true rfl) rfl (by decide)) (ct_adv (d := d + 1) (h1.fr hC3 F3 rfl) (by omega)) (fun _ _ q => by rw [q.2.1.1.1, hC3.1]) ?_
          rintro r100 w4 ⟨rfl, h4, F4⟩
          try dsimp only
          refine hq_F.st (s' := (104, _, _, _)) hj93_103 rfl rfl rfl rfl ?_
          refine hq_F.en hj93_104 rfl rfl ?_
          exact ⟨h4.1, (F1.cov (by decide)).tr ((F3.cov (by decide)).tr (F4.cov (by decide))), Or.inl ⟨rfl, (gv_eq (F4 1 10 (by decide))).trans ((gv_eq (hq_cell F3 (by decide))).trans (gv_eq (F1 1 10 (by decide)))), _, by unfold sn_cmp; rw [if_pos (by omega), if_pos (by omega)], h4⟩⟩
        · skip
          refine hq_F.st (s' := (71, _, _, _)) hj93_68 rfl rfl rfl (hs_icn (t := 80) (ci_eqn (by omega)) rfl) ?_
          refine hq_F.st (s' := (72, _, _, _)) hj93_71 rfl rfl rfl (hs_al (hg_nr g0 (by decide))) ?_
          refine hq_F.st (s' := (75, _, _, _)) hj93_72 rfl rfl rfl (hq_gf h1.1 sh_27 sk_8_9 (hq_ref h1.1 sh_27 (b := 1) rfl)) ?_
          refine hq_F.st (s' := (76, _, _, _)) hj93_75 rfl rfl rfl rfl ?_
          refine hq_F.call hj93_76 rfl rfl si_8_45 (by decide) (by decide) sz_103 (sy_argsV h1.1 sh_1 rfl rfl rfl (Nat.le_of_ble_eq_true rfl) rfl (Nat.le_of_ble_eq_true rfl) rfl (by decide)) (ct_ref h1 ((Int32.ofInt 1))) (fun _ _ q => by rw [q.2.1.1.1, h1.1.1]) ?_
          rintro r76 w9 ⟨rfl, k1, k2, k3, k4⟩
          try dsimp only
          refine hq_F.en hj93_79 rfl rfl ?_
          exact ⟨k1.1, (F1.cov (by decide)).tr (k2.cov (by decide)), Or.inr ⟨rfl, 1, (tq_nx tp B M t).2.1, by unfold sn_cmp; rw [if_pos (by omega), if_neg (by omega)], by rw [k3]; decide, k4⟩⟩
      · rw [decide_eq_false hs62, show tq_b false = (0 : Int32) from rfl]
        refine hq_F.st (s' := (44, _, _, _)) hj93_41 rfl rfl rfl (hs_ifn (t := 53) (ci_nen (by omega)) rfl) ?_
        refine hq_F.st (s' := (45, _, _, _)) hj93_44 rfl rfl rfl (hs_al (hg_nr g0 (by decide))) ?_
        refine hq_F.st (s' := (48, _, _, _)) hj93_45 rfl rfl rfl (hq_gf h.1 sh_27 sk_8_9 (hq_ref h.1 sh_27 (b := 1) rfl)) ?_
        refine hq_F.st (s' := (49, _, _, _)) hj93_48 rfl rfl rfl rfl ?_
        refine hq_F.call hj93_49 rfl rfl si_8_45 (by decide) (by decide) sz_103 (sy_argsV h.1 sh_1 rfl rfl rfl (Nat.le_of_ble_eq_true rfl) rfl (Nat.le_of_ble_eq_true rfl) rfl (by decide)) (ct_ref h ((Int32.ofInt 1))) (fun _ _ q => by rw [q.2.1.1.1, h.1.1]) ?_
        rintro r49 w9 ⟨rfl, k1, k2, k3, k4⟩
        try dsimp only
        refine hq_F.en hj93_52 rfl rfl ?_
        exact ⟨k1.1, k2.cov (by decide), Or.inr ⟨rfl, 1, t.2.1, if_neg (by omega), by rw [k3]; decide, k4⟩⟩
def sc_Q (tp : Nat → Nat) (B : Nat) (NT : List nt_E) (cond : Bool) (dp n : Nat) (t : tq_T) (w : pi_W) (r : Option Value) (w' : pi_W) : Prop := af_Conf aw_Sh w' ∧ af_Fr sc_N w w' ∧ ((r = some (.int 1) ∧ gv w' 1 10 = gv w 1 10 ∧ ∃ t' n', CT tp B 200 w' t' ∧ (gv w' 27 3).toInt = ((n' : Nat) : Int) ∧ n < n' ∧ n' ≤ 20 ∧ (cond = true → ls_k t' ≠ 17 ∧ ls_k t' ≠ 18) ∧ ∀ K : List Bool, K.length + 1 = dp → (cond = true → sn_dn K = K) → ∀ z, Rc tp B 200 NT (true, K, n', t') z → Rc tp B 200 NT (false, K, n, t) z) ∨ (r = some (.int 0) ∧ ∃ k p, FC w' k p ∧ ∀ K : List Bool, K.length + 1 = dp → (cond = true → sn_dn K = K) → Rc tp B 200 NT (false, K, n, t) (.inl (k, p))))
def sc_One (tp : Nat → Nat) (B : Nat) (A : ld_A) (nr : Nat) (NT : List nt_E) (dp d : Nat) : Prop := ∀ (w : pi_W) (t : tq_T) (n : Nat), CT tp B 200 w t → CL w 5 6 A nr NT → (gv w 27 3).toInt = (n : Int) → n ≤ 20 → hq_F d sm90 (sc_Q tp B NT false dp n t w) (0, lv_args 0 [.ref 27, .int (Int32.ofNat dp)], [], w)
def sc_Cond (tp : Nat → Nat) (B : Nat) (A : ld_A) (nr : Nat) (NT : List nt_E) (dp d : Nat) : Prop := ∀ (w : pi_W) (t : tq_T) (n : Nat), CT tp B 200 w t → CL w 5 6 A nr NT → (gv w 27 3).toInt = (n : Int) → n ≤ 20 → hq_F d sm89 (sc_Q tp B NT true dp n t w) (0, lv_args 0 [.ref 27, .int (Int32.ofNat dp)], [], w)
theorem sn_s1 {tp : Nat → Nat} {B M : Nat} {NT : List nt_E} {K : List Bool} {n : Nat} {t : tq_T} : sn_step tp B M NT (false, K, n, t) = sn_one tp B M NT K n t := rfl
theorem sn_s2 {tp : Nat → Nat} {B M : Nat} {NT : List nt_E} {K : List Bool} {n : Nat} {t : tq_T} : sn_step tp B M NT (true, K, n, t) = sn_wh tp B M K n t := rfl
theorem ls_k_r {t : tq_T} : -1 ≤ ls_k t ∧ ls_k t ≤ 28 := by
  unfold ls_k
  split
  · unfold tq_kx
    rcases tq_fi_spec (p := fun k => decide (tq_kw.getD k [] = t.2.2.2.1)) 29 0 with ⟨h, _⟩ | ⟨k, h1, h2, _, h4⟩
    · rw [h]; omega
    · rw [h4]; omega
  · omega
theorem sc_not {d B nr dp n : Nat} {tp : Nat → Nat} {A : ld_A} {NT : List nt_E} {w : pi_W} {t : tq_T} (hd : 3 ≤ d) (H1 : sc_One tp B A nr NT (dp + 1) d) (h : CT tp B 200 w t) (hL : CL w 5 6 A nr NT) (o : (gv w 27 3).toInt = (n : Int)) (hn : n ≤ 20) : hq_F (d + 1) sm91 (fun r w' => af_Conf aw_Sh w' ∧ af_Fr sc_N w w' ∧ ((r = some (.int 1) ∧ gv w' 1 10 = gv w 1 10 ∧ ∃ t' n', CT tp B 200 w' t' ∧ (gv w' 27 3).toInt = ((n' : Nat) : Int) ∧ n < n' ∧ n' ≤ 20 ∧ (false = true → True) ∧ ∀ K : List Bool, K.length + 1 = dp → True → ∀ z, Rc tp B 200 NT (true, K, n', t') z → Rc tp B 200 NT (false, false :: K, n, t) z) ∨ (r = some (.int 0) ∧ ∃ k p, FC w' k p ∧ ∀ K : List Bool, K.length + 1 = dp → True → Rc tp B 200 NT (false, false :: K, n, t) (.inl (k, p))))) (0, lv_args 0 [.ref 27, .int (Int32.ofNat dp)], [], w) := by
  have g0 : pi_get (lv_args 0 [.ref 27, .int (Int32.ofNat dp)]) 0 = some (.ref 27) := rfl
  have g1 : pi_get (lv_args 0 [.ref 27, .int (Int32.ofNat dp)]) 1 = some (.int (Int32.ofNat dp)) := rfl
  have kc0 : (((Int8.ofInt 19).toInt32)).toInt = 19 := by decide
  have kc1 : ((0 : Int32)).toInt = 0 := by decide
  have kc2 : ((1 : Int32)).toInt = 1 := by decide
  have kc3 : ((Int32.ofInt 0)).toInt = 0 := by decide
  have kc4 : ((Int32.ofInt 1)).toInt = 1 := by decide
  have kz := sy_z0
  refine hq_F.st (s' := (1, _, _, _)) hj91_0 rfl rfl rfl (hs_al g0) ?_
  refine hq_F.st (s' := (2, _, _, _)) hj91_1 rfl rfl rfl (hs_iln g1) ?_
  refine hq_F.st (s' := (3, _, _, _)) hj91_2 rfl rfl rfl rfl ?_
  refine hq_F.st (s' := (4, _, _, _)) hj91_3 rfl rfl rfl rfl ?_
  rw [hn_s]
  refine hq_F.call hj91_4 rfl rfl si_8_48 (by decide) (by decide) sz_90 (sy_argsV h.1 sh_27 rfl rfl rfl (Nat.le_of_ble_eq_true rfl) rfl (Nat.le_of_ble_eq_true rfl) rfl (by decide)) (H1 w t n h hL o hn) (fun _ _ q => by rw [q.1.1, h.1.1]) ?_
  rintro r4 w1 ⟨hC1, F1, q⟩
  try dsimp only
  rcases q with ⟨rfl, z1, t1, n1, h1, o1, lt1, le1, cc1, go1⟩ | ⟨rfl, k, p, q1, go1⟩
  · skip
    refine hq_F.st (s' := (12, _, _, _)) hj91_7 rfl rfl rfl (hs_if (ci_ne (by omega)) rfl) ?_
    refine hq_F.st (s' := (13, _, _, _)) hj91_12 rfl rfl rfl (hs_al g0) ?_
    refine hq_F.st (s' := (16, _, _, _)) hj91_13 rfl rfl rfl (hq_gf hC1 sh_27 sk_8_19 (hq_ref hC1 sh_27 (b := 22) rfl)) ?_
    refine hq_F.st (s' := (18, _, _, _)) hj91_16 rfl rfl rfl rfl ?_
    refine hq_F.st (s' := (19, _, _, _)) hj91_18 rfl rfl rfl rfl ?_
    refine hq_F.st (s' := (20, _, _, _)) hj91_19 rfl rfl rfl rfl ?_
    refine hq_F.call hj91_20 rfl rfl si_8_57 (by decide) (by decide) sz_82 (sy_argsV hC1 sh_22 rfl rfl rfl (Nat.le_of_ble_eq_true rfl) rfl (Nat.le_of_ble_eq_true rfl) rfl (by decide)) (sc_add (d := d) (by omega) hC1) (fun _ _ q => by rw [q.2.1.1, hC1.1]) ?_
    rintro r20 w3 ⟨rfl, hC3, F3⟩
    try dsimp only
    refine hq_F.st (s' := (24, _, _, _)) hj91_23 rfl rfl rfl rfl ?_
    refine hq_F.en hj91_24 rfl rfl ?_
    exact ⟨hC3, F1.tr (F3.cov (by decide)), Or.inl ⟨rfl, (gv_eq (hq_cell F3 (by decide))).trans z1, t1, n1, h1.fr hC3 F3 rfl, by rw [gv_eq (hq_cell F3 (by decide))]; exact o1, lt1, le1, fun q => absurd q (by decide), fun K hK _ z hz => go1 (false :: K) (by simp only [List.length_cons]; omega) (fun q => absurd q (by decide)) z hz.not⟩⟩
  · skip
    refine hq_F.st (s' := (10, _, _, _)) hj91_7 rfl rfl rfl (hs_ifn (t := 12) (ci_nen (by omega)) rfl) ?_
    refine hq_F.st (s' := (11, _, _, _)) hj91_10 rfl rfl rfl rfl ?_
    refine hq_F.en hj91_11 rfl rfl ?_
    exact ⟨hC1, F1, Or.inr ⟨rfl, k, p, q1, fun K hK _ => go1 (false :: K) (by simp only [List.length_cons]; omega) (fun q => absurd q (by decide))⟩⟩
theorem sc_one {d B nr dp : Nat} {tp : Nat → Nat} {A : ld_A} {NT : List nt_E} (hd : 1 ≤ d) (hdp : dp ≤ 9) (ho : nt_ok NT) (hcs : nt_cs NT) (H1 : dp ≤ 8 → sc_One tp B A nr NT (dp + 1) (d + 2)) (H2 : dp ≤ 8 → sc_Cond tp B A nr NT (dp + 1) (d + 3)) : sc_One tp B A nr NT dp (d + 4) := by
  intro w t n h hL o hn
  obtain ⟨c0, c2, c3, c4⟩ := hcs
  obtain ⟨d, rfl⟩ : ∃ d', d = d' + 1 := ⟨d - 1, by omega⟩
  have tdp : (Int32.ofNat dp).toInt = (dp : Int) := hn_t (by omega)
  have hkr := ls_k_r (t := t)
  have g0 : pi_get (lv_args 0 [.ref 27, .int (Int32.ofNat dp)]) 0 = some (.ref 27) := rfl
  have g1 : pi_get (lv_args 0 [.ref 27, .int (Int32.ofNat dp)]) 1 = some (.int (Int32.ofNat dp)) := rfl
  have kc0 : (((Int8.ofInt 19).toInt32)).toInt = 19 := by decide
  have kc1 : (((Int8.ofInt 20).toInt32)).toInt = 20 := by decide
  have kc2 : (((Int8.ofInt 40).toInt32)).toInt = 40 := by decide
  have kc3 : (((Int8.ofInt 41).toInt32)).toInt = 41 := by decide
  have kc4 : (((Int8.ofInt 8).toInt32)).toInt = 8 := by decide
  have kc5 : ((0 : Int32)).toInt = 0 := by decide
  have kc6 : ((1 : Int32)).toInt = 1 := by decide
  have kc7 : ((Int32.ofInt 0)).toInt = 0 := by decide
  have kc8 : ((Int32.ofInt 1)).toInt = 1 := by decide
  have kc9 : ((Int32.ofInt 2)).toInt = 2 := by decide
  have kc10 : ((Int32.ofInt 3)).toInt = 3 := by decide
  have kc11 : ((Int32.ofInt 4)).toInt = 4 := by decide
  have kz := sy_z0
  refine hq_F.st (s' := (1, _, _, _)) hj90_0 rfl rfl rfl (hs_al g0) ?_
  refine hq_F.st (s' := (4, _, _, _)) hj90_1 rfl rfl rfl (hq_gf h.1 sh_27 sk_8_9 (hq_ref h.1 sh_27 (b := 1) rfl)) ?_
  refine hq_F.st (s' := (6, _, _, _)) hj90_4 rfl rfl rfl rfl ?_
  refine hq_F.call hj90_6 rfl rfl si_8_61 (by decide) (by decide) sz_104 (sy_argsV h.1 sh_1 rfl rfl rfl (Nat.le_of_ble_eq_true rfl) rfl (Nat.le_of_ble_eq_true rfl) rfl (by decide)) (ct_isS (c := 40) h (by decide)) (fun _ _ q => by rw [q.1]) ?_
  rintro r6 w ⟨rfl, rfl⟩
  try dsimp only
  rw [show decide (t.1 = 4 ∧ t.2.2.1 = 40) = sn_op t from rfl]
  cases hop : sn_op t
  · rw [show tq_b false = (0 : Int32) from rfl]
    refine hq_F.st (s' := (10, _, _, _)) hj90_9 rfl rfl rfl rfl ?_
    refine hq_F.st (s' := (11, _, _, _)) hj90_10 rfl rfl rfl (hs_al (hg_nr g0 (by decide))) ?_
    refine hq_F.st (s' := (14, _, _, _)) hj90_11 rfl rfl rfl (hq_gf h.1 sh_27 sk_8_9 (hq_ref h.1 sh_27 (b := 1) rfl)) ?_
    refine hq_F.st (s' := (17, _, _, _)) hj90_14 rfl rfl rfl (hq_gf h.1 sh_1 sk_8_51 (sy_v h.1 (by decide) rfl)) ?_
    have h9 : (gv w 1 9).toInt = ls_k t := h.2.2.2.2.1.2.2.2.2.1
    refine hq_F.st (s' := (18, _, _, _)) hj90_17 rfl rfl rfl rfl ?_
    refine hq_F.st (s' := (19, _, _, _)) hj90_18 rfl rfl rfl (hs_iln (hg_ne (pi_get_set _ _ _) (by decide))) ?_
    refine hq_F.st (s' := (22, _, _, _)) hj90_19 rfl rfl rfl (hs_ifn (t := 37) (ci_nen (by omega)) rfl) ?_
    refine hq_F.st (s' := (23, _, _, _)) hj90_22 rfl rfl rfl (hs_iln (pi_get_set _ _ _)) ?_
    refine hq_F.st (s' := (25, _, _, _)) hj90_23 rfl rfl rfl rfl ?_
    by_cases b25 : 19 ≤ ((gv w 1 9)).toInt
    · skip
      refine hq_F.st (s' := (37, _, _, _)) hj90_25 rfl rfl rfl (hs_ic (ci_ge (by omega)) rfl) ?_
      refine hq_F.st (s' := (38, _, _, _)) hj90_37 rfl rfl rfl (hs_al (hg_nr (hg_nr g0 (by decide)) (by decide))) ?_
      refine hq_F.st (s' := (41, _, _, _)) hj90_38 rfl rfl rfl (hq_gf h.1 sh_27 sk_8_23 (sy_v h.1 (by decide) rfl)) ?_
      refine hq_F.st (s' := (43, _, _, _)) hj90_41 rfl rfl rfl rfl ?_
      by_cases b43 : 20 ≤ ((gv w 27 3)).toInt
      · skip
        refine hq_F.st (s' := (52, _, _, _)) hj90_43 rfl rfl rfl (hs_ic (ci_ge (by omega)) rfl) ?_
        refine hq_F.st (s' := (53, _, _, _)) hj90_52 rfl rfl rfl (hs_al (hg_nr (hg_nr g0 (by decide)) (by decide))) ?_
        refine hq_F.st (s' := (56, _, _, _)) hj90_53 rfl rfl rfl (hq_gf h.1 sh_27 sk_8_9 (hq_ref h.1 sh_27 (b := 1) rfl)) ?_
        refine hq_F.st (s' := (57, _, _, _)) hj90_56 rfl rfl rfl rfl ?_
        refine hq_F.call hj90_57 rfl rfl si_8_45 (by decide) (by decide) sz_103 (sy_argsV h.1 sh_1 rfl rfl rfl (Nat.le_of_ble_eq_true rfl) rfl (Nat.le_of_ble_eq_true rfl) rfl (by decide)) (ct_ref h ((Int32.ofInt 4))) (fun _ _ q => by rw [q.2.1.1.1, h.1.1]) ?_
        rintro r57 w9 ⟨rfl, k1, k2, k3, k4⟩
        try dsimp only
        refine hq_F.en hj90_60 rfl rfl ?_
        exact ⟨k1.1, k2.cov (by decide), Or.inr ⟨rfl, 4, t.2.1, ⟨by rw [k3]; decide, k4⟩, fun K hK _ => Rc.bad (by rw [sn_s1]; unfold sn_one; rw [if_neg (by intro q; omega)]; exact if_pos (by omega))⟩⟩
      · skip
        refine hq_F.st (s' := (46, _, _, _)) hj90_43 rfl rfl rfl (hs_icn (t := 52) (ci_gen (by omega)) rfl) ?_
        refine hq_F.st (s' := (47, _, _, _)) hj90_46 rfl rfl rfl (hs_iln (hg_ne (hg_ne g1 (by decide)) (by decide))) ?_
        refine hq_F.st (s' := (49, _, _, _)) hj90_47 rfl rfl rfl rfl ?_
        by_cases b49 : ((Int32.ofNat dp)).toInt ≤ 8
        · skip
          refine hq_F.st (s' := (61, _, _, _)) hj90_49 rfl rfl rfl (hs_ic (ci_le (by omega)) rfl) ?_
          refine hq_F.st (s' := (62, _, _, _)) hj90_61 rfl rfl rfl (hs_al (hg_nr (hg_nr g0 (by decide)) (by decide))) ?_
          refine hq_F.st (s' := (63, _, _, _)) hj90_62 rfl rfl rfl rfl ?_
          refine hq_F.st (s' := (66, _, _, _)) hj90_63 rfl rfl rfl (hq_gf h.1 sh_27 sk_8_23 (sy_v h.1 (by decide) rfl)) ?_
          refine hq_F.st (s' := (67, _, _, _)) hj90_66 rfl rfl rfl rfl ?_
          refine hq_F.st (s' := (68, _, _, _)) hj90_67 rfl rfl rfl rfl ?_
          rw [show gv w 27 3 = Int32.ofNat n from hn_e o (by omega), hn_s]
          have tn1 : (Int32.ofNat (n + 1)).toInt = ((n + 1 : Nat) : Int) := hn_t (by omega)
          refine sy_pf hj90_68 h.1 sh_27 sk_8_23 (lo := -2147483648) (hi := 2147483647) rfl (af_i32 _) rfl rfl rfl (fun w21 hC21 hw21 => ?_)
          have hL2_ := hL
          have h2t : 2 ≤ t.1 := by rw [ls_k2 (t := t) (by omega)]; omega
          refine hq_F.st (s' := (72, _, _, _)) hj90_71 rfl rfl rfl (hs_al (hg_nr (hg_nr g0 (by decide)) (by decide))) ?_
          refine hq_F.st (s' := (75, _, _, _)) hj90_72 rfl rfl rfl (hq_gf hC21 sh_27 sk_8_9 (hq_ref hC21 sh_27 (b := 1) rfl)) ?_
          refine hq_F.call hj90_75 rfl rfl si_8_54 (by decide) (by decide) sz_98 (sy_argsV hC21 sh_1 rfl rfl rfl (Nat.le_of_ble_eq_true rfl) rfl (Nat.le_of_ble_eq_true rfl) rfl (by decide)) (ct_adv (d := d + 2) (h.fr hC21 (wpF hw21) rfl) h2t) (fun _ _ q => by rw [q.2.1.1.1, hC21.1]) ?_
          rintro r75 w2 ⟨rfl, h2, F2⟩
          try dsimp only
          have hL2 := (hL.fr (wpF hw21) (by decide) (by decide)).fr F2 (by decide) (by decide)
          have o2 : (gv w2 27 3).toInt = ((n + 1 : Nat) : Int) := by rw [gv_eq (hq_cell F2 (by decide)), wpv hw21, if_pos ⟨rfl, rfl⟩]; exact tn1
          refine hq_F.st (s' := (79, _, _, _)) hj90_78 rfl rfl rfl (hs_iln (hg_ne (pi_get_set _ _ _) (by decide))) ?_
          refine hq_F.st (s' := (110, _, _, _)) hj90_79 rfl rfl rfl (hs_if (ci_eq (by omega)) rfl) ?_
          refine hq_F.st (s' := (111, _, _, _)) hj90_110 rfl rfl rfl (hs_iln (pi_get_set _ _ _)) ?_
          by_cases hk19 : ls_k t = 19
          · have hk : ls_k t = 19 := hk19
            refine hq_F.st (s' := (148, _, _, _)) hj90_111 rfl rfl rfl (ts_in (n := 0) (by omega) (by omega) rfl rfl) ?_
            refine hq_F.st (s' := (149, _, _, _)) hj90_148 rfl rfl rfl (hs_al (hg_nr (hg_nr g0 (by decide)) (by decide))) ?_
            refine hq_F.st (s' := (150, _, _, _)) hj90_149 rfl rfl rfl (hs_iln (hg_ne (hg_ne g1 (by decide)) (by decide))) ?_
            refine hq_F.call hj90_150 rfl rfl si_8_68 (by decide) (by decide) sz_91 (sy_argsV h2.1 sh_27 rfl rfl rfl (Nat.le_of_ble_eq_true rfl) rfl (Nat.le_of_ble_eq_true rfl) rfl (by decide)) (sc_not (d := d + 3) (by omega) (H1 (by omega)) h2 hL2 o2 (by omega)) (fun _ _ q => by rw [q.1.1, h2.1.1]) ?_
            rintro r150 w4 ⟨hC4, F4, q⟩
            try dsimp only
            rcases q with ⟨rfl, z4, t4, n4, h4, o4, lt4, le4, cc4, go4⟩ | ⟨rfl, k, p, q1, go4⟩
            · skip
              refine hq_F.en hj90_153 rfl rfl ?_
              exact ⟨hC4, (((wpF hw21).cov (by decide)).tr (F2.cov (by decide))).tr F4, Or.inl ⟨rfl, z4.trans ((gv_eq (F2 1 10 (by decide))).trans (gv_eq (hq_cell (wpF hw21) (by decide)))), t4, n4, h4, o4, by omega, le4, fun q => absurd q (by decide), fun K hK _ z hz => Rc.st (by rw [sn_s1]; unfold sn_one; rw [if_neg (by intro q; omega), if_neg (by omega)]; rw [if_neg (by rw [hop]; decide)]; exact if_pos hk) (go4 K hK trivial z hz)⟩⟩
            · skip
              refine hq_F.en hj90_153 rfl rfl ?_
              exact ⟨hC4, (((wpF hw21).cov (by decide)).tr (F2.cov (by decide))).tr F4, Or.inr ⟨rfl, k, p, q1, fun K hK _ => Rc.st (by rw [sn_s1]; unfold sn_one; rw [if_neg (by intro q; omega), if_neg (by omega)]; rw [if_neg (by rw [hop]; decide)]; exact if_pos hk) (go4 K hK trivial)⟩⟩
          by_cases hk20 : ls_k t = 20
          · have hk : ls_k t = 20 := hk20
            refine hq_F.st (s' := (154, _, _, _)) hj90_111 rfl rfl rfl (ts_in (n := 1) (by omega) (by omega) rfl rfl) ?_
            refine hq_F.st (s' := (155, _, _, _)) hj90_154 rfl rfl rfl (hs_al (hg_nr (hg_nr g0 (by decide)) (by decide))) ?_
            refine hq_F.st (s' := (158, _, _, _)) hj90_155 rfl rfl rfl (hq_gf h2.1 sh_27 sk_8_19 (hq_ref h2.1 sh_27 (b := 22) rfl)) ?_
            refine hq_F.st (s' := (159, _, _, _)) hj90_158 rfl rfl rfl (hs_iln (pi_get_set _ _ _)) ?_
            refine hq_F.st (s' := (160, _, _, _)) hj90_159 rfl rfl rfl rfl ?_
            refine hq_F.st (s' := (161, _, _, _)) hj90_160 rfl rfl rfl rfl ?_
            refine hq_F.call hj90_161 rfl rfl si_8_57 (by decide) (by decide) sz_82 (sy_argsV h2.1 sh_22 rfl rfl rfl (Nat.le_of_ble_eq_true rfl) rfl (Nat.le_of_ble_eq_true rfl) rfl (by decide)) (sc_add (d := d + 4) (by omega) h2.1) (fun _ _ q => by rw [q.2.1.1, h2.1.1]) ?_
            rintro r161 w4 ⟨rfl, hC4, F4⟩
            try dsimp only
            refine hq_F.st (s' := (165, _, _, _)) hj90_164 rfl rfl rfl rfl ?_
            refine hq_F.en hj90_165 rfl rfl ?_
            exact ⟨hC4, (((wpF hw21).cov (by decide)).tr (F2.cov (by decide))).tr (F4.cov (by decide)), Or.inl ⟨rfl, (gv_eq (hq_cell F4 (by decide))).trans ((gv_eq (F2 1 10 (by decide))).trans (gv_eq (hq_cell (wpF hw21) (by decide)))), (tq_nx tp B 200 t), n + 1, h2.fr hC4 F4 rfl, by rw [gv_eq (hq_cell F4 (by decide))]; exact o2, by omega, by omega, fun q => absurd q (by decide), fun K hK _ z hz => Rc.st (by rw [sn_s1]; unfold sn_one; rw [if_neg (by intro q; omega), if_neg (by omega)]; rw [if_neg (by rw [hop]; decide)]; rw [if_neg (by omega)]; rw [show sn_leaf tp B 200 NT (ls_k t) (tq_nx tp B 200 t) = .inr ((tq_nx tp B 200 t)) from by exact if_pos (by omega)]; rfl) hz⟩⟩
          by_cases hk21 : ls_k t = 21
          · have hk : ls_k t = 21 := hk21
            refine hq_F.st (s' := (154, _, _, _)) hj90_111 rfl rfl rfl (ts_in (n := 2) (by omega) (by omega) rfl rfl) ?_
            refine hq_F.st (s' := (155, _, _, _)) hj90_154 rfl rfl rfl (hs_al (hg_nr (hg_nr g0 (by decide)) (by decide))) ?_
            refine hq_F.st (s' := (158, _, _, _)) hj90_155 rfl rfl rfl (hq_gf h2.1 sh_27 sk_8_19 (hq_ref h2.1 sh_27 (b := 22) rfl)) ?_
            refine hq_F.st (s' := (159, _, _, _)) hj90_158 rfl rfl rfl (hs_iln (pi_get_set _ _ _)) ?_
            refine hq_F.st (s' := (160, _, _, _)) hj90_159 rfl rfl rfl rfl ?_
            refine hq_F.st (s' := (161, _, _, _)) hj90_160 rfl rfl rfl rfl ?_
            refine hq_F.call hj90_161 rfl rfl si_8_57 (by decide) (by decide) sz_82 (sy_argsV h2.1 sh_22 rfl rfl rfl (Nat.le_of_ble_eq_true rfl) rfl (Nat.le_of_ble_eq_true rfl) rfl (by decide)) (sc_add (d := d + 4) (by omega) h2.1) (fun _ _ q => by rw [q.2.1.1, h2.1.1]) ?_
            rintro r161 w4 ⟨rfl, hC4, F4⟩
            try dsimp only
            refine hq_F.st (s' := (165, _, _, _)) hj90_164 rfl rfl rfl rfl ?_
            refine hq_F.en hj90_165 rfl rfl ?_
            exact ⟨hC4, (((wpF hw21).cov (by decide)).tr (F2.cov (by decide))).tr (F4.cov (by decide)), Or.inl ⟨rfl, (gv_eq (hq_cell F4 (by decide))).trans ((gv_eq (F2 1 10 (by decide))).trans (gv_eq (hq_cell (wpF hw21) (by decide)))), (tq_nx tp B 200 t), n + 1, h2.fr hC4 F4 rfl, by rw [gv_eq (hq_cell F4 (by decide))]; exact o2, by omega, by omega, fun q => absurd q (by decide), fun K hK _ z hz => Rc.st (by rw [sn_s1]; unfold sn_one; rw [if_neg (by intro q; omega), if_neg (by omega)]; rw [if_neg (by rw [hop]; decide)]; rw [if_neg (by omega)]; rw [show sn_leaf tp B 200 NT (ls_k t) (tq_nx tp B 200 t) = .inr ((tq_nx tp B 200 t)) from by exact if_pos (by omega)]; rfl) hz⟩⟩
          by_cases hk22 : ls_k t = 22
          · have hk : ls_k t = 22 := hk22
            refine hq_F.st (s' := (166, _, _, _)) hj90_111 rfl rfl rfl (ts_in (n := 3) (by omega) (by omega) rfl rfl) ?_
            refine hq_F.st (s' := (167, _, _, _)) hj90_166 rfl rfl rfl (hs_al (hg_nr (hg_nr g0 (by decide)) (by decide))) ?_
            refine hq_F.st (s' := (168, _, _, _)) hj90_167 rfl rfl rfl (hs_iln (pi_get_set _ _ _)) ?_
            refine hq_F.st (s' := (169, _, _, _)) hj90_168 rfl rfl rfl rfl ?_
            refine hq_F.call hj90_169 rfl rfl si_8_73 (by decide) (by decide) sz_92 (sy_argsV h2.1 sh_27 rfl rfl rfl (Nat.le_of_ble_eq_true rfl) rfl (Nat.le_of_ble_eq_true rfl) rfl (by decide)) (sc_named (d := d) (so := 3) h2 hL2 ho (by omega) (by decide)) (fun _ _ q => by rw [q.1.1, h2.1.1]) ?_
            rintro r169 w4 ⟨hC4, F4, q⟩
            try dsimp only
            rcases q with ⟨rfl, z4, k, e4, h4⟩ | ⟨rfl, k, p, e4, q4⟩
            · skip
              refine hq_F.en hj90_172 rfl rfl ?_
              exact ⟨hC4, (((wpF hw21).cov (by decide)).tr (F2.cov (by decide))).tr (F4.cov (by decide)), Or.inl ⟨rfl, z4.trans ((gv_eq (F2 1 10 (by decide))).trans (gv_eq (hq_cell (wpF hw21) (by decide)))), tq_nx tp B 200 (tq_nx tp B 200 t), n + 1, h4, by rw [gv_eq (hq_cell F4 (by decide))]; exact o2, by omega, by omega, fun q => absurd q (by decide), fun K hK _ z hz => Rc.st (by rw [sn_s1]; unfold sn_one; rw [if_neg (by intro q; omega), if_neg (by omega)]; rw [if_neg (by rw [hop]; decide)]; rw [if_neg (by omega)]; rw [show sn_leaf tp B 200 NT (ls_k t) (tq_nx tp B 200 t) = .inr (tq_nx tp B 200 (tq_nx tp B 200 t)) from by unfold sn_leaf; rw [if_neg (by omega), if_pos (by omega)]; rw [if_pos hk]; rw [e4]; rfl]; rfl) hz⟩⟩
            · skip
              refine hq_F.en hj90_172 rfl rfl ?_
              exact ⟨hC4, (((wpF hw21).cov (by decide)).tr (F2.cov (by decide))).tr (F4.cov (by decide)), Or.inr ⟨rfl, k, p, q4, fun K hK _ => Rc.bad (by rw [sn_s1]; unfold sn_one; rw [if_neg (by intro q; omega), if_neg (by omega)]; rw [if_neg (by rw [hop]; decide)]; rw [if_neg (by omega)]; rw [show sn_leaf tp B 200 NT (ls_k t) (tq_nx tp B 200 t) = .inl (k, p) from by unfold sn_leaf; rw [if_neg (by omega), if_pos (by omega)]; rw [if_pos hk]; rw [e4]; rfl]; rfl)⟩⟩
          by_cases hk23 : ls_k t = 23
          · have hk : ls_k t = 23 := hk23
            refine hq_F.st (s' := (173, _, _, _)) hj90_111 rfl rfl rfl (ts_in (n := 4) (by omega) (by omega) rfl rfl) ?_
            refine hq_F.st (s' := (174, _, _, _)) hj90_173 rfl rfl rfl (hs_al (hg_nr (hg_nr g0 (by decide)) (by decide))) ?_
            refine hq_F.st (s' := (175, _, _, _)) hj90_174 rfl rfl rfl (hs_iln (pi_get_set _ _ _)) ?_
            refine hq_F.st (s' := (176, _, _, _)) hj90_175 rfl rfl rfl rfl ?_
            refine hq_F.call hj90_176 rfl rfl si_8_73 (by decide) (by decide) sz_92 (sy_argsV h2.1 sh_27 rfl rfl rfl (Nat.le_of_ble_eq_true rfl) rfl (Nat.le_of_ble_eq_true rfl) rfl (by decide)) (sc_named (d := d) (so := 2) h2 hL2 ho (by omega) (by decide)) (fun _ _ q => by rw [q.1.1, h2.1.1]) ?_
            rintro r176 w4 ⟨hC4, F4, q⟩
            try dsimp only
            rcases q with ⟨rfl, z4, k, e4, h4⟩ | ⟨rfl, k, p, e4, q4⟩
            · skip
              refine hq_F.en hj90_179 rfl rfl ?_
              exact ⟨hC4, (((wpF hw21).cov (by decide)).tr (F2.cov (by decide))).tr (F4.cov (by decide)), Or.inl ⟨rfl, z4.trans ((gv_eq (F2 1 10 (by decide))).trans (gv_eq (hq_cell (wpF hw21) (by decide)))), tq_nx tp B 200 (tq_nx tp B 200 t), n + 1, h4, by rw [gv_eq (hq_cell F4 (by decide))]; exact o2, by omega, by omega, fun q => absurd q (by decide), fun K hK _ z hz => Rc.st (by rw [sn_s1]; unfold sn_one; rw [if_neg (by intro q; omega), if_neg (by omega)]; rw [if_neg (by rw [hop]; decide)]; rw [if_neg (by omega)]; rw [show sn_leaf tp B 200 NT (ls_k t) (tq_nx tp B 200 t) = .inr (tq_nx tp B 200 (tq_nx tp B 200 t)) from by unfold sn_leaf; rw [if_neg (by omega), if_pos (by omega)]; rw [if_neg (by omega), if_pos hk]; rw [e4]; rfl]; rfl) hz⟩⟩
            · skip
              refine hq_F.en hj90_179 rfl rfl ?_
              exact ⟨hC4, (((wpF hw21).cov (by decide)).tr (F2.cov (by decide))).tr (F4.cov (by decide)), Or.inr ⟨rfl, k, p, q4, fun K hK _ => Rc.bad (by rw [sn_s1]; unfold sn_one; rw [if_neg (by intro q; omega), if_neg (by omega)]; rw [if_neg (by rw [hop]; decide)]; rw [if_neg (by omega)]; rw [show sn_leaf tp B 200 NT (ls_k t) (tq_nx tp B 200 t) = .inl (k, p) from by unfold sn_leaf; rw [if_neg (by omega), if_pos (by omega)]; rw [if_neg (by omega), if_pos hk]; rw [e4]; rfl]; rfl)⟩⟩
          by_cases hk24 : ls_k t = 24
          · have hk : ls_k t = 24 := hk24
            refine hq_F.st (s' := (180, _, _, _)) hj90_111 rfl rfl rfl (ts_in (n := 5) (by omega) (by omega) rfl rfl) ?_
            refine hq_F.st (s' := (181, _, _, _)) hj90_180 rfl rfl rfl (hs_al (hg_nr (hg_nr g0 (by decide)) (by decide))) ?_
            refine hq_F.st (s' := (182, _, _, _)) hj90_181 rfl rfl rfl (hs_iln (pi_get_set _ _ _)) ?_
            refine hq_F.st (s' := (183, _, _, _)) hj90_182 rfl rfl rfl rfl ?_
            refine hq_F.call hj90_183 rfl rfl si_8_73 (by decide) (by decide) sz_92 (sy_argsV h2.1 sh_27 rfl rfl rfl (Nat.le_of_ble_eq_true rfl) rfl (Nat.le_of_ble_eq_true rfl) rfl (by decide)) (sc_named (d := d) (so := 0) h2 hL2 ho (by omega) (by decide)) (fun _ _ q => by rw [q.1.1, h2.1.1]) ?_
            rintro r183 w4 ⟨hC4, F4, q⟩
            try dsimp only
            rcases q with ⟨rfl, z4, k, e4, h4⟩ | ⟨rfl, k, p, e4, q4⟩
            · skip
              refine hq_F.en hj90_186 rfl rfl ?_
              exact ⟨hC4, (((wpF hw21).cov (by decide)).tr (F2.cov (by decide))).tr (F4.cov (by decide)), Or.inl ⟨rfl, z4.trans ((gv_eq (F2 1 10 (by decide))).trans (gv_eq (hq_cell (wpF hw21) (by decide)))), tq_nx tp B 200 (tq_nx tp B 200 t), n + 1, h4, by rw [gv_eq (hq_cell F4 (by decide))]; exact o2, by omega, by omega, fun q => absurd q (by decide), fun K hK _ z hz => Rc.st (by rw [sn_s1]; unfold sn_one; rw [if_neg (by intro q; omega), if_neg (by omega)]; rw [if_neg (by rw [hop]; decide)]; rw [if_neg (by omega)]; rw [show sn_leaf tp B 200 NT (ls_k t) (tq_nx tp B 200 t) = .inr (tq_nx tp B 200 (tq_nx tp B 200 t)) from by unfold sn_leaf; rw [if_neg (by omega), if_pos (by omega)]; rw [if_neg (by omega), if_neg (by omega)]; rw [e4]; rfl]; rfl) hz⟩⟩
            · skip
              refine hq_F.en hj90_186 rfl rfl ?_
              exact ⟨hC4, (((wpF hw21).cov (by decide)).tr (F2.cov (by decide))).tr (F4.cov (by decide)), Or.inr ⟨rfl, k, p, q4, fun K hK _ => Rc.bad (by rw [sn_s1]; unfold sn_one; rw [if_neg (by intro q; omega), if_neg (by omega)]; rw [if_neg (by rw [hop]; decide)]; rw [if_neg (by omega)]; rw [show sn_leaf tp B 200 NT (ls_k t) (tq_nx tp B 200 t) = .inl (k, p) from by unfold sn_leaf; rw [if_neg (by omega), if_pos (by omega)]; rw [if_neg (by omega), if_neg (by omega)]; rw [e4]; rfl]; rfl)⟩⟩
          refine hq_F.st (s' := (187, _, _, _)) hj90_111 rfl rfl rfl (ts_out (by omega) rfl) ?_
          refine hq_F.st (s' := (188, _, _, _)) hj90_187 rfl rfl rfl (hs_al (hg_nr (hg_nr g0 (by decide)) (by decide))) ?_
          refine hq_F.st (s' := (189, _, _, _)) hj90_188 rfl rfl rfl (hs_iln (pi_get_set _ _ _)) ?_
          refine hq_F.call hj90_189 rfl rfl si_8_77 (by decide) (by decide) sz_93 (sy_argsV h2.1 sh_27 rfl rfl rfl (Nat.le_of_ble_eq_true rfl) rfl (Nat.le_of_ble_eq_true rfl) rfl (by decide)) (sc_cmp (d := d) h2) (fun _ _ q => by rw [q.1.1, h2.1.1]) ?_
          rintro r189 w4 ⟨hC4, F4, q⟩
          try dsimp only
          rcases q with ⟨rfl, z4, t4, e4, h4⟩ | ⟨rfl, k, p, e4, q4⟩
          · skip
            refine hq_F.en hj90_192 rfl rfl ?_
            exact ⟨hC4, (((wpF hw21).cov (by decide)).tr (F2.cov (by decide))).tr (F4.cov (by decide)), Or.inl ⟨rfl, z4.trans ((gv_eq (F2 1 10 (by decide))).trans (gv_eq (hq_cell (wpF hw21) (by decide)))), t4, n + 1, h4, by rw [gv_eq (hq_cell F4 (by decide))]; exact o2, by omega, by omega, fun q => absurd q (by decide), fun K hK _ z hz => Rc.st (by rw [sn_s1]; unfold sn_one; rw [if_neg (by intro q; omega), if_neg (by omega)]; rw [if_neg (by rw [hop]; decide)]; rw [if_neg (by omega)]; rw [show sn_leaf tp B 200 NT (ls_k t) (tq_nx tp B 200 t) = .inr (t4) from by unfold sn_leaf; rw [if_neg (by omega), if_neg (by omega)]; exact e4]; rfl) hz⟩⟩
          · skip
            refine hq_F.en hj90_192 rfl rfl ?_
            exact ⟨hC4, (((wpF hw21).cov (by decide)).tr (F2.cov (by decide))).tr (F4.cov (by decide)), Or.inr ⟨rfl, k, p, q4, fun K hK _ => Rc.bad (by rw [sn_s1]; unfold sn_one; rw [if_neg (by intro q; omega), if_neg (by omega)]; rw [if_neg (by rw [hop]; decide)]; rw [if_neg (by omega)]; rw [show sn_leaf tp B 200 NT (ls_k t) (tq_nx tp B 200 t) = .inl (k, p) from by unfold sn_leaf; rw [if_neg (by omega), if_neg (by omega)]; exact e4]; rfl)⟩⟩
        · skip
          refine hq_F.st (s' := (52, _, _, _)) hj90_49 rfl rfl rfl (hs_icn (t := 61) (ci_len (by omega)) rfl) ?_
          refine hq_F.st (s' := (53, _, _, _)) hj90_52 rfl rfl rfl (hs_al (hg_nr (hg_nr g0 (by decide)) (by decide))) ?_
          refine hq_F.st (s' := (56, _, _, _)) hj90_53 rfl rfl rfl (hq_gf h.1 sh_27 sk_8_9 (hq_ref h.1 sh_27 (b := 1) rfl)) ?_
          refine hq_F.st (s' := (57, _, _, _)) hj90_56 rfl rfl rfl rfl ?_
          refine hq_F.call hj90_57 rfl rfl si_8_45 (by decide) (by decide) sz_103 (sy_argsV h.1 sh_1 rfl rfl rfl (Nat.le_of_ble_eq_true rfl) rfl (Nat.le_of_ble_eq_true rfl) rfl (by decide)) (ct_ref h ((Int32.ofInt 4))) (fun _ _ q => by rw [q.2.1.1.1, h.1.1]) ?_
          rintro r57 w9 ⟨rfl, k1, k2, k3, k4⟩
          try dsimp only
          refine hq_F.en hj90_60 rfl rfl ?_
          exact ⟨k1.1, k2.cov (by decide), Or.inr ⟨rfl, 4, t.2.1, ⟨by rw [k3]; decide, k4⟩, fun K hK _ => Rc.bad (by rw [sn_s1]; unfold sn_one; rw [if_neg (by intro q; omega)]; exact if_pos (by omega))⟩⟩
    · skip
      refine hq_F.st (s' := (28, _, _, _)) hj90_25 rfl rfl rfl (hs_icn (t := 37) (ci_gen (by omega)) rfl) ?_
      refine hq_F.st (s' := (29, _, _, _)) hj90_28 rfl rfl rfl (hs_al (hg_nr (hg_nr g0 (by decide)) (by decide))) ?_
      refine hq_F.st (s' := (32, _, _, _)) hj90_29 rfl rfl rfl (hq_gf h.1 sh_27 sk_8_9 (hq_ref h.1 sh_27 (b := 1) rfl)) ?_
      refine hq_F.st (s' := (33, _, _, _)) hj90_32 rfl rfl rfl rfl ?_
      refine hq_F.call hj90_33 rfl rfl si_8_45 (by decide) (by decide) sz_103 (sy_argsV h.1 sh_1 rfl rfl rfl (Nat.le_of_ble_eq_true rfl) rfl (Nat.le_of_ble_eq_true rfl) rfl (by decide)) (ct_ref h ((Int32.ofInt 1))) (fun _ _ q => by rw [q.2.1.1.1, h.1.1]) ?_
      rintro r33 w9 ⟨rfl, k1, k2, k3, k4⟩
      try dsimp only
      refine hq_F.en hj90_36 rfl rfl ?_
      exact ⟨k1.1, k2.cov (by decide), Or.inr ⟨rfl, 1, t.2.1, ⟨by rw [k3]; decide, k4⟩, fun K hK _ => Rc.bad (by rw [sn_s1]; exact if_pos ⟨hop, by omega⟩)⟩⟩
  · rw [show tq_b true = (1 : Int32) from rfl]
    refine hq_F.st (s' := (10, _, _, _)) hj90_9 rfl rfl rfl rfl ?_
    refine hq_F.st (s' := (11, _, _, _)) hj90_10 rfl rfl rfl (hs_al (hg_nr g0 (by decide))) ?_
    refine hq_F.st (s' := (14, _, _, _)) hj90_11 rfl rfl rfl (hq_gf h.1 sh_27 sk_8_9 (hq_ref h.1 sh_27 (b := 1) rfl)) ?_
    refine hq_F.st (s' := (17, _, _, _)) hj90_14 rfl rfl rfl (hq_gf h.1 sh_1 sk_8_51 (sy_v h.1 (by decide) rfl)) ?_
    have h9 : (gv w 1 9).toInt = ls_k t := h.2.2.2.2.1.2.2.2.2.1
    refine hq_F.st (s' := (18, _, _, _)) hj90_17 rfl rfl rfl rfl ?_
    refine hq_F.st (s' := (19, _, _, _)) hj90_18 rfl rfl rfl (hs_iln (hg_ne (pi_get_set _ _ _) (by decide))) ?_
    refine hq_F.st (s' := (37, _, _, _)) hj90_19 rfl rfl rfl (hs_if (ci_ne (by omega)) rfl) ?_
    refine hq_F.st (s' := (38, _, _, _)) hj90_37 rfl rfl rfl (hs_al (hg_nr (hg_nr g0 (by decide)) (by decide))) ?_
    refine hq_F.st (s' := (41, _, _, _)) hj90_38 rfl rfl rfl (hq_gf h.1 sh_27 sk_8_23 (sy_v h.1 (by decide) rfl)) ?_
    refine hq_F.st (s' := (43, _, _, _)) hj90_41 rfl rfl rfl rfl ?_
    by_cases b43 : 20 ≤ ((gv w 27 3)).toInt
    · skip
      refine hq_F.st (s' := (52, _, _, _)) hj90_43 rfl rfl rfl (hs_ic (ci_ge (by omega)) rfl) ?_
      refine hq_F.st (s' := (53, _, _, _)) hj90_52 rfl rfl rfl (hs_al (hg_nr (hg_nr g0 (by decide)) (by decide))) ?_
      refine hq_F.st (s' := (56, _, _, _)) hj90_53 rfl rfl rfl (hq_gf h.1 sh_27 sk_8_9 (hq_ref h.1 sh_27 (b := 1) rfl)) ?_
      refine hq_F.st (s' := (57, _, _, _)) hj90_56 rfl rfl rfl rfl ?_
      refine hq_F.call hj90_57 rfl rfl si_8_45 (by decide) (by decide) sz_103 (sy_argsV h.1 sh_1 rfl rfl rfl (Nat.le_of_ble_eq_true rfl) rfl (Nat.le_of_ble_eq_true rfl) rfl (by decide)) (ct_ref h ((Int32.ofInt 4))) (fun _ _ q => by rw [q.2.1.1.1, h.1.1]) ?_
      rintro r57 w9 ⟨rfl, k1, k2, k3, k4⟩
      try dsimp only
      refine hq_F.en hj90_60 rfl rfl ?_
      exact ⟨k1.1, k2.cov (by decide), Or.inr ⟨rfl, 4, t.2.1, ⟨by rw [k3]; decide, k4⟩, fun K hK _ => Rc.bad (by rw [sn_s1]; unfold sn_one; rw [if_neg (by rw [hop]; intro q; exact absurd q.1 (by decide))]; exact if_pos (by omega))⟩⟩
    · skip
      refine hq_F.st (s' := (46, _, _, _)) hj90_43 rfl rfl rfl (hs_icn (t := 52) (ci_gen (by omega)) rfl) ?_
      refine hq_F.st (s' := (47, _, _, _)) hj90_46 rfl rfl rfl (hs_iln (hg_ne (hg_ne g1 (by decide)) (by decide))) ?_
      refine hq_F.st (s' := (49, _, _, _)) hj90_47 rfl rfl rfl rfl ?_
      by_cases b49 : ((Int32.ofNat dp)).toInt ≤ 8
      · skip
        refine hq_F.st (s' := (61, _, _, _)) hj90_49 rfl rfl rfl (hs_ic (ci_le (by omega)) rfl) ?_
        refine hq_F.st (s' := (62, _, _, _)) hj90_61 rfl rfl rfl (hs_al (hg_nr (hg_nr g0 (by decide)) (by decide))) ?_
        refine hq_F.st (s' := (63, _, _, _)) hj90_62 rfl rfl rfl rfl ?_
        refine hq_F.st (s' := (66, _, _, _)) hj90_63 rfl rfl rfl (hq_gf h.1 sh_27 sk_8_23 (sy_v h.1 (by decide) rfl)) ?_
        refine hq_F.st (s' := (67, _, _, _)) hj90_66 rfl rfl rfl rfl ?_
        refine hq_F.st (s' := (68, _, _, _)) hj90_67 rfl rfl rfl rfl ?_
        rw [show gv w 27 3 = Int32.ofNat n from hn_e o (by omega), hn_s]
        have tn1 : (Int32.ofNat (n + 1)).toInt = ((n + 1 : Nat) : Int) := hn_t (by omega)
        refine sy_pf hj90_68 h.1 sh_27 sk_8_23 (lo := -2147483648) (hi := 2147483647) rfl (af_i32 _) rfl rfl rfl (fun w21 hC21 hw21 => ?_)
        have hL2_ := hL
        have h2t : 2 ≤ t.1 := by have := of_decide_eq_true hop; omega
        refine hq_F.st (s' := (72, _, _, _)) hj90_71 rfl rfl rfl (hs_al (hg_nr (hg_nr g0 (by decide)) (by decide))) ?_
        refine hq_F.st (s' := (75, _, _, _)) hj90_72 rfl rfl rfl (hq_gf hC21 sh_27 sk_8_9 (hq_ref hC21 sh_27 (b := 1) rfl)) ?_
        refine hq_F.call hj90_75 rfl rfl si_8_54 (by decide) (by decide) sz_98 (sy_argsV hC21 sh_1 rfl rfl rfl (Nat.le_of_ble_eq_true rfl) rfl (Nat.le_of_ble_eq_true rfl) rfl (by decide)) (ct_adv (d := d + 2) (h.fr hC21 (wpF hw21) rfl) h2t) (fun _ _ q => by rw [q.2.1.1.1, hC21.1]) ?_
        rintro r75 w2 ⟨rfl, h2, F2⟩
        try dsimp only
        have hL2 := (hL.fr (wpF hw21) (by decide) (by decide)).fr F2 (by decide) (by decide)
        have o2 : (gv w2 27 3).toInt = ((n + 1 : Nat) : Int) := by rw [gv_eq (hq_cell F2 (by decide)), wpv hw21, if_pos ⟨rfl, rfl⟩]; exact tn1
        refine hq_F.st (s' := (79, _, _, _)) hj90_78 rfl rfl rfl (hs_iln (hg_ne (pi_get_set _ _ _) (by decide))) ?_
        refine hq_F.st (s' := (82, _, _, _)) hj90_79 rfl rfl rfl (hs_ifn (t := 110) (ci_eqn (by omega)) rfl) ?_
        refine hq_F.st (s' := (83, _, _, _)) hj90_82 rfl rfl rfl (hs_al (hg_nr (hg_nr g0 (by decide)) (by decide))) ?_
        refine hq_F.st (s' := (84, _, _, _)) hj90_83 rfl rfl rfl (hs_iln (hg_ne (hg_ne g1 (by decide)) (by decide))) ?_
        refine hq_F.st (s' := (85, _, _, _)) hj90_84 rfl rfl rfl rfl ?_
        refine hq_F.st (s' := (86, _, _, _)) hj90_85 rfl rfl rfl rfl ?_
        rw [hn_s]
        refine hq_F.call hj90_86 rfl rfl si_8_38 (by decide) (by decide) sz_89 (sy_argsV h2.1 sh_27 rfl rfl rfl (Nat.le_of_ble_eq_true rfl) rfl (Nat.le_of_ble_eq_true rfl) rfl (by decide)) (H2 (by omega) w2 (tq_nx tp B 200 t) (n + 1) h2 hL2 o2 (by omega)) (fun _ _ q => by rw [q.1.1, h2.1.1]) ?_
        rintro r86 w4 ⟨hC4, F4, q⟩
        try dsimp only
        rcases q with ⟨rfl, z4, t4, n4, h4, o4, lt4, le4, cc4, go4⟩ | ⟨rfl, k, p, q1, go4⟩
        · skip
          refine hq_F.st (s' := (92, _, _, _)) hj90_89 rfl rfl rfl (hs_ifn (t := 108) (ci_eqn (by omega)) rfl) ?_
          refine hq_F.st (s' := (93, _, _, _)) hj90_92 rfl rfl rfl (hs_al (hg_nr (hg_nr g0 (by decide)) (by decide))) ?_
          refine hq_F.st (s' := (96, _, _, _)) hj90_93 rfl rfl rfl (hq_gf hC4 sh_27 sk_8_9 (hq_ref hC4 sh_27 (b := 1) rfl)) ?_
          refine hq_F.st (s' := (98, _, _, _)) hj90_96 rfl rfl rfl rfl ?_
          refine hq_F.call hj90_98 rfl rfl si_8_65 (by decide) (by decide) sz_105 (sy_argsV hC4 sh_1 rfl rfl rfl (Nat.le_of_ble_eq_true rfl) rfl (Nat.le_of_ble_eq_true rfl) rfl (by decide)) (ct_tkS (d := d + 1) (c := 41) h4 (by decide)) (fun r w' q => by rcases q with ⟨_, _, q, _⟩ | ⟨_, _, q, _⟩; rw [q.1.1, hC4.1]; rw [q.1.1, hC4.1]) ?_
          rintro r98 w5 q
          try dsimp only
          rcases q with ⟨rfl, s5, h5, F5⟩ | ⟨rfl, s5, h5, F5, q5⟩
          · skip
            refine hq_F.st (s' := (104, _, _, _)) hj90_101 rfl rfl rfl (hs_ifn (t := 108) (ci_eqn (by omega)) rfl) ?_
            refine hq_F.st (s' := (105, _, _, _)) hj90_104 rfl rfl rfl rfl ?_
            refine hq_F.st (s' := (109, _, _, _)) hj90_105 rfl rfl rfl rfl ?_
            refine hq_F.en hj90_109 rfl rfl ?_
            exact ⟨h5.1, (((wpF hw21).cov (by decide)).tr (F2.cov (by decide))).tr (F4.tr (F5.cov (by decide))), Or.inl ⟨rfl, (gv_eq (F5 1 10 (by decide))).trans (z4.trans ((gv_eq (F2 1 10 (by decide))).trans (gv_eq (hq_cell (wpF hw21) (by decide))))), tq_nx tp B 200 t4, n4, h5, by rw [gv_eq (hq_cell F5 (by decide))]; exact o4, by omega, le4, fun q => absurd q (by decide), fun K hK _ z hz => Rc.st (by rw [sn_s1]; unfold sn_one; rw [if_neg (by rw [hop]; intro q; exact absurd q.1 (by decide)), if_neg (by omega)]; exact if_pos hop) (go4 (true :: K) (by simp only [List.length_cons]; omega) (fun _ => rfl) z (Rc.st (by rw [sn_s2]; unfold sn_wh; rw [if_neg (by omega), if_neg (by have := cc4 rfl; omega)]; exact if_pos ⟨decide_eq_true s5, by simp [sn_dn]⟩) hz))⟩⟩
          · skip
            refine hq_F.st (s' := (108, _, _, _)) hj90_101 rfl rfl rfl (hs_if (ci_eq (by omega)) rfl) ?_
            refine hq_F.st (s' := (109, _, _, _)) hj90_108 rfl rfl rfl rfl ?_
            refine hq_F.en hj90_109 rfl rfl ?_
            exact ⟨h5.1, (((wpF hw21).cov (by decide)).tr (F2.cov (by decide))).tr (F4.tr (F5.cov (by decide))), Or.inr ⟨rfl, 1, t4.2.1, q5, fun K hK _ => Rc.st (by rw [sn_s1]; unfold sn_one; rw [if_neg (by rw [hop]; intro q; exact absurd q.1 (by decide)), if_neg (by omega)]; exact if_pos hop) (go4 (true :: K) (by simp only [List.length_cons]; omega) (fun _ => rfl) _ (Rc.bad (by rw [sn_s2]; unfold sn_wh; by_cases e0 : t4.1 = 0; rw [if_pos e0]; exact if_neg (by simp [sn_dn]); rw [if_neg e0, if_neg (by have := cc4 rfl; omega)]; exact if_neg (fun q => s5 (of_decide_eq_true q.1)))))⟩⟩
        · skip
          refine hq_F.st (s' := (108, _, _, _)) hj90_89 rfl rfl rfl (hs_if (ci_eq (by omega)) rfl) ?_
          refine hq_F.st (s' := (109, _, _, _)) hj90_108 rfl rfl rfl rfl ?_
          refine hq_F.en hj90_109 rfl rfl ?_
          exact ⟨hC4, (((wpF hw21).cov (by decide)).tr (F2.cov (by decide))).tr F4, Or.inr ⟨rfl, k, p, q1, fun K hK _ => Rc.st (by rw [sn_s1]; unfold sn_one; rw [if_neg (by rw [hop]; intro q; exact absurd q.1 (by decide)), if_neg (by omega)]; exact if_pos hop) (go4 (true :: K) (by simp only [List.length_cons]; omega) (fun _ => rfl))⟩⟩
      · skip
        refine hq_F.st (s' := (52, _, _, _)) hj90_49 rfl rfl rfl (hs_icn (t := 61) (ci_len (by omega)) rfl) ?_
        refine hq_F.st (s' := (53, _, _, _)) hj90_52 rfl rfl rfl (hs_al (hg_nr (hg_nr g0 (by decide)) (by decide))) ?_
        refine hq_F.st (s' := (56, _, _, _)) hj90_53 rfl rfl rfl (hq_gf h.1 sh_27 sk_8_9 (hq_ref h.1 sh_27 (b := 1) rfl)) ?_
        refine hq_F.st (s' := (57, _, _, _)) hj90_56 rfl rfl rfl rfl ?_
        refine hq_F.call hj90_57 rfl rfl si_8_45 (by decide) (by decide) sz_103 (sy_argsV h.1 sh_1 rfl rfl rfl (Nat.le_of_ble_eq_true rfl) rfl (Nat.le_of_ble_eq_true rfl) rfl (by decide)) (ct_ref h ((Int32.ofInt 4))) (fun _ _ q => by rw [q.2.1.1.1, h.1.1]) ?_
        rintro r57 w9 ⟨rfl, k1, k2, k3, k4⟩
        try dsimp only
        refine hq_F.en hj90_60 rfl rfl ?_
        exact ⟨k1.1, k2.cov (by decide), Or.inr ⟨rfl, 4, t.2.1, ⟨by rw [k3]; decide, k4⟩, fun K hK _ => Rc.bad (by rw [sn_s1]; unfold sn_one; rw [if_neg (by rw [hop]; intro q; exact absurd q.1 (by decide))]; exact if_pos (by omega))⟩⟩
theorem sc_cl {d B nr dp n0 : Nat} {tp : Nat → Nat} {A : ld_A} {NT : List nt_E} {w0 : pi_W} {t0 : tq_T} (H1 : sc_One tp B A nr NT dp (d + 2)) (hd : 1 ≤ d) : ∀ (f : Nat) {w : pi_W} {t : tq_T} {n i j : Nat} {lv : pi_L}, 20 - n ≤ f → i + 1 + j ≤ n → n ≤ 20 → CT tp B 200 w t → CL w 5 6 A nr NT → (gv w 27 3).toInt = (n : Int) → af_Fr sc_N w0 w → gv w 1 10 = gv w0 1 10 → n0 < n → (∀ K : List Bool, K.length + 1 = dp → (true = true → sn_dn K = K) → ∀ z, Rc tp B 200 NT (true, K, n, t) z → Rc tp B 200 NT (false, K, n0, t0) z) → pi_get lv 0 = some (.ref 27) → pi_get lv 1 = some (.int (Int32.ofNat dp)) → pi_get lv 2 = some (.int (Int32.ofNat i)) → pi_get lv 3 = some (.int (Int32.ofNat j)) → hq_F (d + 3) sm89 (sc_Q tp B NT true dp n0 t0 w0) (20, lv, [], w) := by
  intro f
  induction f with
  | zero =>
    intro w t n i j lv hf hij hn h hL o hF hz0 hn0 hR g0 g1 g2 g3
    have ti : (Int32.ofNat i).toInt = (i : Int) := hn_t (by omega)
    have tj : (Int32.ofNat j).toInt = (j : Int) := hn_t (by omega)
    have ih : ∀ {w : pi_W} {t : tq_T} {n i j : Nat} {lv : pi_L}, n < 0 → i + 1 + j ≤ n → n ≤ 20 → CT tp B 200 w t → CL w 5 6 A nr NT → (gv w 27 3).toInt = (n : Int) → af_Fr sc_N w0 w → gv w 1 10 = gv w0 1 10 → n0 < n → (∀ K : List Bool, K.length + 1 = dp → (true = true → sn_dn K = K) → ∀ z, Rc tp B 200 NT (true, K, n, t) z → Rc tp B 200 NT (false, K, n0, t0) z) → pi_get lv 0 = some (.ref 27) → pi_get lv 1 = some (.int (Int32.ofNat dp)) → pi_get lv 2 = some (.int (Int32.ofNat i)) → pi_get lv 3 = some (.int (Int32.ofNat j)) → hq_F (d + 3) sm89 (sc_Q tp B NT true dp n0 t0 w0) (20, lv, [], w) := fun h => absurd h (Nat.not_lt_zero _)
    have kc0 : (((Int8.ofInt 17).toInt32)).toInt = 17 := by decide
    have kc1 : (((Int8.ofInt 18).toInt32)).toInt = 18 := by decide
    have kc2 : (((Int8.ofInt 20).toInt32)).toInt = 20 := by decide
    have kc3 : ((0 : Int32)).toInt = 0 := by decide
    have kc4 : ((1 : Int32)).toInt = 1 := by decide
    have kc5 : ((Int32.ofInt 0)).toInt = 0 := by decide
    have kc6 : ((Int32.ofInt 1)).toInt = 1 := by decide
    have kz := sy_z0
    refine hq_F.st (s' := (21, _, _, _)) hj89_20 rfl rfl rfl (hs_iln g3) ?_
    refine hq_F.st (s' := (23, _, _, _)) hj89_21 rfl rfl rfl rfl ?_
    refine hq_F.st (s' := (26, _, _, _)) hj89_23 rfl rfl rfl (hs_icn (t := 72) (ci_gen (by omega)) rfl) ?_
    refine hq_F.st (s' := (27, _, _, _)) hj89_26 rfl rfl rfl (hs_al g0) ?_
    refine hq_F.st (s' := (30, _, _, _)) hj89_27 rfl rfl rfl (hq_gf h.1 sh_27 sk_8_9 (hq_ref h.1 sh_27 (b := 1) rfl)) ?_
    refine hq_F.st (s' := (33, _, _, _)) hj89_30 rfl rfl rfl (hq_gf h.1 sh_1 sk_8_51 (sy_v h.1 (by decide) rfl)) ?_
    have h9 : (gv w 1 9).toInt = ls_k t := h.2.2.2.2.1.2.2.2.2.1
    refine hq_F.st (s' := (35, _, _, _)) hj89_33 rfl rfl rfl rfl ?_
    by_cases b35 : ¬ ((gv w 1 9)).toInt = 18
    · skip
      refine hq_F.st (s' := (72, _, _, _)) hj89_35 rfl rfl rfl (hs_ic (ci_ne (by omega)) rfl) ?_
      refine hq_F.st (s' := (73, _, _, _)) hj89_72 rfl rfl rfl (hs_iln g2) ?_
      by_cases b73 : ((Int32.ofNat i)).toInt ≤ 0
      · skip
        refine hq_F.st (s' := (87, _, _, _)) hj89_73 rfl rfl rfl (hs_if (ci_le (by omega)) rfl) ?_
        refine hq_F.st (s' := (88, _, _, _)) hj89_87 rfl rfl rfl (hs_al g0) ?_
        refine hq_F.st (s' := (91, _, _, _)) hj89_88 rfl rfl rfl (hq_gf h.1 sh_27 sk_8_9 (hq_ref h.1 sh_27 (b := 1) rfl)) ?_
        refine hq_F.st (s' := (94, _, _, _)) hj89_91 rfl rfl rfl (hq_gf h.1 sh_1 sk_8_51 (sy_v h.1 (by decide) rfl)) ?_
        have h9 : (gv w 1 9).toInt = ls_k t := h.2.2.2.2.1.2.2.2.2.1
        refine hq_F.st (s' := (96, _, _, _)) hj89_94 rfl rfl rfl rfl ?_
        by_cases b96 : ((gv w 1 9)).toInt = 17
        · skip
          refine hq_F.st (s' := (101, _, _, _)) hj89_96 rfl rfl rfl (hs_ic (ci_eq (by omega)) rfl) ?_
          have hk : ls_k t = 17 := by omega
          have h2t : 2 ≤ t.1 := by rw [ls_k2 (t := t) (by omega)]; omega
          refine hq_F.st (s' := (102, _, _, _)) hj89_101 rfl rfl rfl (hs_al g0) ?_
          refine hq_F.st (s' := (105, _, _, _)) hj89_102 rfl rfl rfl (hq_gf h.1 sh_27 sk_8_9 (hq_ref h.1 sh_27 (b := 1) rfl)) ?_
          refine hq_F.call hj89_105 rfl rfl si_8_54 (by decide) (by decide) sz_98 (sy_argsV h.1 sh_1 rfl rfl rfl (Nat.le_of_ble_eq_true rfl) rfl (Nat.le_of_ble_eq_true rfl) rfl (by decide)) (ct_adv (d := d) h h2t) (fun _ _ q => by rw [q.2.1.1.1, h.1.1]) ?_
          rintro r105 w5 ⟨rfl, h5, F5⟩
          try dsimp only
          have hL5 := hL.fr F5 (by decide) (by decide)
          have o5 : (gv w5 27 3).toInt = (n : Int) := by rw [gv_eq (hq_cell F5 (by decide))]; exact o
          have FZ : af_Fr sc_N w0 w5 := hF.tr ((F5.cov (by decide)))
          have hzZ : gv w5 1 10 = gv w0 1 10 := (gv_eq (F5 1 10 (by decide))).trans (hz0)
          refine hq_F.st (s' := (111, _, _, _)) hj89_108 rfl rfl rfl (hs_inc g2 (by decide)) ?_
          refine hq_F.st (s' := (2, _, _, _)) hj89_111 rfl rfl rfl rfl ?_
          refine hq_F.st (s' := (3, _, _, _)) hj89_2 rfl rfl rfl (hs_iln (pi_get_set _ _ _)) ?_
          refine hq_F.st (s' := (5, _, _, _)) hj89_3 rfl rfl rfl rfl ?_
          have ti1 : (Int32.ofNat i + Int32.ofInt 1).toInt = (i : Int) + 1 := by rw [hn_s, hn_t (by omega)]; omega
          refine hq_F.st (s' := (8, _, _, _)) hj89_5 rfl rfl rfl (hs_icn (t := 114) (ci_gtn (by omega)) rfl) ?_
          refine hq_F.st (s' := (9, _, _, _)) hj89_8 rfl rfl rfl (hs_al (hg_nr g0 (by decide))) ?_
          refine hq_F.st (s' := (10, _, _, _)) hj89_9 rfl rfl rfl (hs_iln (hg_ne g1 (by decide))) ?_
          refine hq_F.call hj89_10 rfl rfl si_8_48 (by decide) (by decide) sz_90 (sy_argsV h5.1 sh_27 rfl rfl rfl (Nat.le_of_ble_eq_true rfl) rfl (Nat.le_of_ble_eq_true rfl) rfl (by decide)) (H1 w5 (tq_nx tp B 200 t) n h5 hL5 o5 (by omega)) (fun _ _ q => by rw [q.1.1, h5.1.1]) ?_
          rintro r10 w6 ⟨hC6, F6, q⟩
          try dsimp only
          rcases q with ⟨rfl, z6, t6, n6, h6, o6, lt6, le6, cc6, go6⟩ | ⟨rfl, k, p, q1, go6⟩
          · skip
            refine hq_F.st (s' := (18, _, _, _)) hj89_13 rfl rfl rfl (hs_if (ci_ne (by omega)) rfl) ?_
            refine hq_F.st (s' := (19, _, _, _)) hj89_18 rfl rfl rfl rfl ?_
            refine hq_F.st (s' := (20, _, _, _)) hj89_19 rfl rfl rfl rfl ?_
            exact ih (n := n6) (i := i + 1) (j := 0) (by omega) (by omega) le6 h6 (hL5.fr F6 (by decide) (by decide)) o6 (FZ.tr F6) (z6.trans hzZ) (by omega) (fun K hK hKd z hz => hR K hK hKd z (Rc.st (by rw [sn_s2]; unfold sn_wh; rw [if_neg (by omega)]; exact if_pos (Or.inr hk)) (by rw [hKd rfl]; exact go6 K hK (fun q => absurd q (by decide)) z hz))) (hg_nr (hg_nr g0 (by decide)) (by decide)) (hg_ne (hg_ne g1 (by decide)) (by decide)) (by rw [← hn_s]; exact (hg_ne (pi_get_set _ _ _) (by decide))) (pi_get_set _ _ _)
          · skip
            refine hq_F.st (s' := (16, _, _, _)) hj89_13 rfl rfl rfl (hs_ifn (t := 18) (ci_nen (by omega)) rfl) ?_
            refine hq_F.st (s' := (17, _, _, _)) hj89_16 rfl rfl rfl rfl ?_
            refine hq_F.en hj89_17 rfl rfl ?_
            exact ⟨hC6, FZ.tr F6, Or.inr ⟨rfl, k, p, q1, fun K hK hKd => hR K hK hKd _ (Rc.st (by rw [sn_s2]; unfold sn_wh; rw [if_neg (by omega)]; exact if_pos (Or.inr hk)) (by rw [hKd rfl]; exact go6 K hK (fun q => absurd q (by decide))))⟩⟩
        · skip
          refine hq_F.st (s' := (99, _, _, _)) hj89_96 rfl rfl rfl (hs_icn (t := 101) (ci_eqn (by omega)) rfl) ?_
          refine hq_F.st (s' := (100, _, _, _)) hj89_99 rfl rfl rfl rfl ?_
          refine hq_F.en hj89_100 rfl rfl ?_
          exact ⟨h.1, hF, Or.inl ⟨rfl, hz0, t, n, h, o, by omega, by omega, fun _ => ⟨by omega, by omega⟩, hR⟩⟩
      · skip
        refine hq_F.st (s' := (76, _, _, _)) hj89_73 rfl rfl rfl (hs_ifn (t := 87) (ci_len (by omega)) rfl) ?_
        refine hq_F.st (s' := (77, _, _, _)) hj89_76 rfl rfl rfl (hs_al g0) ?_
        refine hq_F.st (s' := (80, _, _, _)) hj89_77 rfl rfl rfl (hq_gf h.1 sh_27 sk_8_19 (hq_ref h.1 sh_27 (b := 22) rfl)) ?_
        refine hq_F.st (s' := (82, _, _, _)) hj89_80 rfl rfl rfl rfl ?_
        refine hq_F.st (s' := (83, _, _, _)) hj89_82 rfl rfl rfl rfl ?_
        refine hq_F.st (s' := (84, _, _, _)) hj89_83 rfl rfl rfl rfl ?_
        refine hq_F.call hj89_84 rfl rfl si_8_57 (by decide) (by decide) sz_82 (sy_argsV h.1 sh_22 rfl rfl rfl (Nat.le_of_ble_eq_true rfl) rfl (Nat.le_of_ble_eq_true rfl) rfl (by decide)) (sc_add (d := d + 2) (by omega) h.1) (fun _ _ q => by rw [q.2.1.1, h.1.1]) ?_
        rintro r84 w4 ⟨rfl, hC4, F4⟩
        try dsimp only
        refine hq_F.st (s' := (88, _, _, _)) hj89_87 rfl rfl rfl (hs_al g0) ?_
        refine hq_F.st (s' := (91, _, _, _)) hj89_88 rfl rfl rfl (hq_gf hC4 sh_27 sk_8_9 (hq_ref hC4 sh_27 (b := 1) rfl)) ?_
        refine hq_F.st (s' := (94, _, _, _)) hj89_91 rfl rfl rfl (hq_gf hC4 sh_1 sk_8_51 (sy_v hC4 (by decide) rfl)) ?_
        have h9 : (gv w4 1 9).toInt = ls_k t := (h.fr hC4 F4 rfl).2.2.2.2.1.2.2.2.2.1
        refine hq_F.st (s' := (96, _, _, _)) hj89_94 rfl rfl rfl rfl ?_
        by_cases b96 : ((gv w4 1 9)).toInt = 17
        · skip
          refine hq_F.st (s' := (101, _, _, _)) hj89_96 rfl rfl rfl (hs_ic (ci_eq (by omega)) rfl) ?_
          have hk : ls_k t = 17 := by omega
          have h2t : 2 ≤ t.1 := by rw [ls_k2 (t := t) (by omega)]; omega
          refine hq_F.st (s' := (102, _, _, _)) hj89_101 rfl rfl rfl (hs_al g0) ?_
          refine hq_F.st (s' := (105, _, _, _)) hj89_102 rfl rfl rfl (hq_gf hC4 sh_27 sk_8_9 (hq_ref hC4 sh_27 (b := 1) rfl)) ?_
          refine hq_F.call hj89_105 rfl rfl si_8_54 (by decide) (by decide) sz_98 (sy_argsV hC4 sh_1 rfl rfl rfl (Nat.le_of_ble_eq_true rfl) rfl (Nat.le_of_ble_eq_true rfl) rfl (by decide)) (ct_adv (d := d) (h.fr hC4 F4 rfl) h2t) (fun _ _ q => by rw [q.2.1.1.1, hC4.1]) ?_
          rintro r105 w5 ⟨rfl, h5, F5⟩
          try dsimp only
          have hL5 := (hL.fr F4 (by decide) (by decide)).fr F5 (by decide) (by decide)
          have o5 : (gv w5 27 3).toInt = (n : Int) := by rw [gv_eq (hq_cell F5 (by decide)), gv_eq (hq_cell F4 (by decide))]; exact o
          have FZ : af_Fr sc_N w0 w5 := hF.tr ((F4.cov (by decide)).tr (F5.cov (by decide)))
          have hzZ : gv w5 1 10 = gv w0 1 10 := (gv_eq (F5 1 10 (by decide))).trans ((gv_eq (hq_cell F4 (by decide))).trans hz0)
          refine hq_F.st (s' := (111, _, _, _)) hj89_108 rfl rfl rfl (hs_inc g2 (by decide)) ?_
          refine hq_F.st (s' := (2, _, _, _)) hj89_111 rfl rfl rfl rfl ?_
          refine hq_F.st (s' := (3, _, _, _)) hj89_2 rfl rfl rfl (hs_iln (pi_get_set _ _ _)) ?_
          refine hq_F.st (s' := (5, _, _, _)) hj89_3 rfl rfl rfl rfl ?_
          have ti1 : (Int32.ofNat i + Int32.ofInt 1).toInt = (i : Int) + 1 := by rw [hn_s, hn_t (by omega)]; omega
          refine hq_F.st (s' := (8, _, _, _)) hj89_5 rfl rfl rfl (hs_icn (t := 114) (ci_gtn (by omega)) rfl) ?_
          refine hq_F.st (s' := (9, _, _, _)) hj89_8 rfl rfl rfl (hs_al (hg_nr g0 (by decide))) ?_
          refine hq_F.st (s' := (10, _, _, _)) hj89_9 rfl rfl rfl (hs_iln (hg_ne g1 (by decide))) ?_
          refine hq_F.call hj89_10 rfl rfl si_8_48 (by decide) (by decide) sz_90 (sy_argsV h5.1 sh_27 rfl rfl rfl (Nat.le_of_ble_eq_true rfl) rfl (Nat.le_of_ble_eq_true rfl) rfl (by decide)) (H1 w5 (tq_nx tp B 200 t) n h5 hL5 o5 (by omega)) (fun _ _ q => by rw [q.1.1, h5.1.1]) ?_
          rintro r10 w6 ⟨hC6, F6, q⟩
          try dsimp only
          rcases q with ⟨rfl, z6, t6, n6, h6, o6, lt6, le6, cc6, go6⟩ | ⟨rfl, k, p, q1, go6⟩
          · skip
            refine hq_F.st (s' := (18, _, _, _)) hj89_13 rfl rfl rfl (hs_if (ci_ne (by omega)) rfl) ?_
            refine hq_F.st (s' := (19, _, _, _)) hj89_18 rfl rfl rfl rfl ?_
            refine hq_F.st (s' := (20, _, _, _)) hj89_19 rfl rfl rfl rfl ?_
            exact ih (n := n6) (i := i + 1) (j := 0) (by omega) (by omega) le6 h6 (hL5.fr F6 (by decide) (by decide)) o6 (FZ.tr F6) (z6.trans hzZ) (by omega) (fun K hK hKd z hz => hR K hK hKd z (Rc.st (by rw [sn_s2]; unfold sn_wh; rw [if_neg (by omega)]; exact if_pos (Or.inr hk)) (by rw [hKd rfl]; exact go6 K hK (fun q => absurd q (by decide)) z hz))) (hg_nr (hg_nr g0 (by decide)) (by decide)) (hg_ne (hg_ne g1 (by decide)) (by decide)) (by rw [← hn_s]; exact (hg_ne (pi_get_set _ _ _) (by decide))) (pi_get_set _ _ _)
          · skip
            refine hq_F.st (s' := (16, _, _, _)) hj89_13 rfl rfl rfl (hs_ifn (t := 18) (ci_nen (by omega)) rfl) ?_
            refine hq_F.st (s' := (17, _, _, _)) hj89_16 rfl rfl rfl rfl ?_
            refine hq_F.en hj89_17 rfl rfl ?_
            exact ⟨hC6, FZ.tr F6, Or.inr ⟨rfl, k, p, q1, fun K hK hKd => hR K hK hKd _ (Rc.st (by rw [sn_s2]; unfold sn_wh; rw [if_neg (by omega)]; exact if_pos (Or.inr hk)) (by rw [hKd rfl]; exact go6 K hK (fun q => absurd q (by decide))))⟩⟩
        · skip
          refine hq_F.st (s' := (99, _, _, _)) hj89_96 rfl rfl rfl (hs_icn (t := 101) (ci_eqn (by omega)) rfl) ?_
          refine hq_F.st (s' := (100, _, _, _)) hj89_99 rfl rfl rfl rfl ?_
          refine hq_F.en hj89_100 rfl rfl ?_
          exact ⟨hC4, hF.tr (F4.cov (by decide)), Or.inl ⟨rfl, (gv_eq (hq_cell F4 (by decide))).trans hz0, t, n, h.fr hC4 F4 rfl, by rw [gv_eq (hq_cell F4 (by decide))]; exact o, by omega, by omega, fun _ => ⟨by omega, by omega⟩, hR⟩⟩
    · skip
      refine hq_F.st (s' := (38, _, _, _)) hj89_35 rfl rfl rfl (hs_icn (t := 72) (ci_nen (by omega)) rfl) ?_
      have hk : ls_k t = 18 := by omega
      have h2t : 2 ≤ t.1 := by rw [ls_k2 (t := t) (by omega)]; omega
      refine hq_F.st (s' := (39, _, _, _)) hj89_38 rfl rfl rfl (hs_al g0) ?_
      refine hq_F.st (s' := (42, _, _, _)) hj89_39 rfl rfl rfl (hq_gf h.1 sh_27 sk_8_9 (hq_ref h.1 sh_27 (b := 1) rfl)) ?_
      refine hq_F.call hj89_42 rfl rfl si_8_54 (by decide) (by decide) sz_98 (sy_argsV h.1 sh_1 rfl rfl rfl (Nat.le_of_ble_eq_true rfl) rfl (Nat.le_of_ble_eq_true rfl) rfl (by decide)) (ct_adv (d := d) h h2t) (fun _ _ q => by rw [q.2.1.1.1, h.1.1]) ?_
      rintro r42 w1 ⟨rfl, h1, F1⟩
      try dsimp only
      refine hq_F.st (s' := (46, _, _, _)) hj89_45 rfl rfl rfl (hs_al g0) ?_
      refine hq_F.st (s' := (47, _, _, _)) hj89_46 rfl rfl rfl (hs_iln g1) ?_
      refine hq_F.call hj89_47 rfl rfl si_8_48 (by decide) (by decide) sz_90 (sy_argsV h1.1 sh_27 rfl rfl rfl (Nat.le_of_ble_eq_true rfl) rfl (Nat.le_of_ble_eq_true rfl) rfl (by decide)) (H1 w1 (tq_nx tp B 200 t) n h1 (hL.fr F1 (by decide) (by decide)) (by rw [gv_eq (hq_cell F1 (by decide))]; exact o) (by omega)) (fun _ _ q => by rw [q.1.1, h1.1.1]) ?_
      rintro r47 w2 ⟨hC2, F2, q⟩
      try dsimp only
      rcases q with ⟨rfl, z2, t2, n2, h2, o2, lt2, le2, cc2, go2⟩ | ⟨rfl, k, p, q1, go2⟩
      · skip
        refine hq_F.st (s' := (55, _, _, _)) hj89_50 rfl rfl rfl (hs_if (ci_ne (by omega)) rfl) ?_
        refine hq_F.st (s' := (56, _, _, _)) hj89_55 rfl rfl rfl (hs_al g0) ?_
        refine hq_F.st (s' := (59, _, _, _)) hj89_56 rfl rfl rfl (hq_gf hC2 sh_27 sk_8_19 (hq_ref hC2 sh_27 (b := 22) rfl)) ?_
        refine hq_F.st (s' := (61, _, _, _)) hj89_59 rfl rfl rfl rfl ?_
        refine hq_F.st (s' := (62, _, _, _)) hj89_61 rfl rfl rfl rfl ?_
        refine hq_F.st (s' := (63, _, _, _)) hj89_62 rfl rfl rfl rfl ?_
        refine hq_F.call hj89_63 rfl rfl si_8_57 (by decide) (by decide) sz_82 (sy_argsV hC2 sh_22 rfl rfl rfl (Nat.le_of_ble_eq_true rfl) rfl (Nat.le_of_ble_eq_true rfl) rfl (by decide)) (sc_add (d := d + 2) (by omega) hC2) (fun _ _ q => by rw [q.2.1.1, hC2.1]) ?_
        rintro r63 w3 ⟨rfl, hC3, F3⟩
        try dsimp only
        refine hq_F.st (s' := (69, _, _, _)) hj89_66 rfl rfl rfl (hs_inc g3 (by decide)) ?_
        refine hq_F.st (s' := (20, _, _, _)) hj89_69 rfl rfl rfl rfl ?_
        exact ih (n := n2) (i := i) (j := j + 1) (by omega) (by omega) le2 (h2.fr hC3 F3 rfl) (((hL.fr F1 (by decide) (by decide)).fr F2 (by decide) (by decide)).fr F3 (by decide) (by decide)) (by rw [gv_eq (hq_cell F3 (by decide))]; exact o2) (hF.tr ((F1.cov (by decide)).tr (F2.tr (F3.cov (by decide))))) ((gv_eq (hq_cell F3 (by decide))).trans (z2.trans ((gv_eq (F1 1 10 (by decide))).trans hz0))) (by omega) (fun K hK hKd z hz => hR K hK hKd z (Rc.st (by rw [sn_s2]; unfold sn_wh; rw [if_neg (by omega)]; exact if_pos (Or.inl hk)) (by rw [hKd rfl]; exact go2 K hK (fun q => absurd q (by decide)) z hz))) (hg_nr g0 (by decide)) (hg_ne g1 (by decide)) (hg_ne g2 (by decide)) (by rw [← hn_s]; exact (pi_get_set _ _ _))
      · skip
        refine hq_F.st (s' := (53, _, _, _)) hj89_50 rfl rfl rfl (hs_ifn (t := 55) (ci_nen (by omega)) rfl) ?_
        refine hq_F.st (s' := (54, _, _, _)) hj89_53 rfl rfl rfl rfl ?_
        refine hq_F.en hj89_54 rfl rfl ?_
        exact ⟨hC2, hF.tr ((F1.cov (by decide)).tr F2), Or.inr ⟨rfl, k, p, q1, fun K hK hKd => hR K hK hKd _ (Rc.st (by rw [sn_s2]; unfold sn_wh; rw [if_neg (by omega)]; exact if_pos (Or.inl hk)) (by rw [hKd rfl]; exact go2 K hK (fun q => absurd q (by decide))))⟩⟩
  | succ f ih =>
    intro w t n i j lv hf hij hn h hL o hF hz0 hn0 hR g0 g1 g2 g3
    have ti : (Int32.ofNat i).toInt = (i : Int) := hn_t (by omega)
    have tj : (Int32.ofNat j).toInt = (j : Int) := hn_t (by omega)
    have kc0 : (((Int8.ofInt 17).toInt32)).toInt = 17 := by decide
    have kc1 : (((Int8.ofInt 18).toInt32)).toInt = 18 := by decide
    have kc2 : (((Int8.ofInt 20).toInt32)).toInt = 20 := by decide
    have kc3 : ((0 : Int32)).toInt = 0 := by decide
    have kc4 : ((1 : Int32)).toInt = 1 := by decide
    have kc5 : ((Int32.ofInt 0)).toInt = 0 := by decide
    have kc6 : ((Int32.ofInt 1)).toInt = 1 := by decide
    have kz := sy_z0
    refine hq_F.st (s' := (21, _, _, _)) hj89_20 rfl rfl rfl (hs_iln g3) ?_
    refine hq_F.st (s' := (23, _, _, _)) hj89_21 rfl rfl rfl rfl ?_
    refine hq_F.st (s' := (26, _, _, _)) hj89_23 rfl rfl rfl (hs_icn (t := 72) (ci_gen (by omega)) rfl) ?_
    refine hq_F.st (s' := (27, _, _, _)) hj89_26 rfl rfl rfl (hs_al g0) ?_
    refine hq_F.st (s' := (30, _, _, _)) hj89_27 rfl rfl rfl (hq_gf h.1 sh_27 sk_8_9 (hq_ref h.1 sh_27 (b := 1) rfl)) ?_
    refine hq_F.st (s' := (33, _, _, _)) hj89_30 rfl rfl rfl (hq_gf h.1 sh_1 sk_8_51 (sy_v h.1 (by decide) rfl)) ?_
    have h9 : (gv w 1 9).toInt = ls_k t := h.2.2.2.2.1.2.2.2.2.1
    refine hq_F.st (s' := (35, _, _, _)) hj89_33 rfl rfl rfl rfl ?_
    by_cases b35 : ¬ ((gv w 1 9)).toInt = 18
    · skip
      refine hq_F.st (s' := (72, _, _, _)) hj89_35 rfl rfl rfl (hs_ic (ci_ne (by omega)) rfl) ?_
      refine hq_F.st (s' := (73, _, _, _)) hj89_72 rfl rfl rfl (hs_iln g2) ?_
      by_cases b73 : ((Int32.ofNat i)).toInt ≤ 0
      · skip
        refine hq_F.st (s' := (87, _, _, _)) hj89_73 rfl rfl rfl (hs_if (ci_le (by omega)) rfl) ?_
        refine hq_F.st (s' := (88, _, _, _)) hj89_87 rfl rfl rfl (hs_al g0) ?_
        refine hq_F.st (s' := (91, _, _, _)) hj89_88 rfl rfl rfl (hq_gf h.1 sh_27 sk_8_9 (hq_ref h.1 sh_27 (b := 1) rfl)) ?_
        refine hq_F.st (s' := (94, _, _, _)) hj89_91 rfl rfl rfl (hq_gf h.1 sh_1 sk_8_51 (sy_v h.1 (by decide) rfl)) ?_
        have h9 : (gv w 1 9).toInt = ls_k t := h.2.2.2.2.1.2.2.2.2.1
        refine hq_F.st (s' := (96, _, _, _)) hj89_94 rfl rfl rfl rfl ?_
        by_cases b96 : ((gv w 1 9)).toInt = 17
        · skip
          refine hq_F.st (s' := (101, _, _, _)) hj89_96 rfl rfl rfl (hs_ic (ci_eq (by omega)) rfl) ?_
          have hk : ls_k t = 17 := by omega
          have h2t : 2 ≤ t.1 := by rw [ls_k2 (t := t) (by omega)]; omega
          refine hq_F.st (s' := (102, _, _, _)) hj89_101 rfl rfl rfl (hs_al g0) ?_
          refine hq_F.st (s' := (105, _, _, _)) hj89_102 rfl rfl rfl (hq_gf h.1 sh_27 sk_8_9 (hq_ref h.1 sh_27 (b := 1) rfl)) ?_
          refine hq_F.call hj89_105 rfl rfl si_8_54 (by decide) (by decide) sz_98 (sy_argsV h.1 sh_1 rfl rfl rfl (Nat.le_of_ble_eq_true rfl) rfl (Nat.le_of_ble_eq_true rfl) rfl (by decide)) (ct_adv (d := d) h h2t) (fun _ _ q => by rw [q.2.1.1.1, h.1.1]) ?_
          rintro r105 w5 ⟨rfl, h5, F5⟩
          try dsimp only
          have hL5 := hL.fr F5 (by decide) (by decide)
          have o5 : (gv w5 27 3).toInt = (n : Int) := by rw [gv_eq (hq_cell F5 (by decide))]; exact o
          have FZ : af_Fr sc_N w0 w5 := hF.tr ((F5.cov (by decide)))
          have hzZ : gv w5 1 10 = gv w0 1 10 := (gv_eq (F5 1 10 (by decide))).trans (hz0)
          refine hq_F.st (s' := (111, _, _, _)) hj89_108 rfl rfl rfl (hs_inc g2 (by decide)) ?_
          refine hq_F.st (s' := (2, _, _, _)) hj89_111 rfl rfl rfl rfl ?_
          refine hq_F.st (s' := (3, _, _, _)) hj89_2 rfl rfl rfl (hs_iln (pi_get_set _ _ _)) ?_
          refine hq_F.st (s' := (5, _, _, _)) hj89_3 rfl rfl rfl rfl ?_
          have ti1 : (Int32.ofNat i + Int32.ofInt 1).toInt = (i : Int) + 1 := by rw [hn_s, hn_t (by omega)]; omega
          refine hq_F.st (s' := (8, _, _, _)) hj89_5 rfl rfl rfl (hs_icn (t := 114) (ci_gtn (by omega)) rfl) ?_
          refine hq_F.st (s' := (9, _, _, _)) hj89_8 rfl rfl rfl (hs_al (hg_nr g0 (by decide))) ?_
          refine hq_F.st (s' := (10, _, _, _)) hj89_9 rfl rfl rfl (hs_iln (hg_ne g1 (by decide))) ?_
          refine hq_F.call hj89_10 rfl rfl si_8_48 (by decide) (by decide) sz_90 (sy_argsV h5.1 sh_27 rfl rfl rfl (Nat.le_of_ble_eq_true rfl) rfl (Nat.le_of_ble_eq_true rfl) rfl (by decide)) (H1 w5 (tq_nx tp B 200 t) n h5 hL5 o5 (by omega)) (fun _ _ q => by rw [q.1.1, h5.1.1]) ?_
          rintro r10 w6 ⟨hC6, F6, q⟩
          try dsimp only
          rcases q with ⟨rfl, z6, t6, n6, h6, o6, lt6, le6, cc6, go6⟩ | ⟨rfl, k, p, q1, go6⟩
          · skip
            refine hq_F.st (s' := (18, _, _, _)) hj89_13 rfl rfl rfl (hs_if (ci_ne (by omega)) rfl) ?_
            refine hq_F.st (s' := (19, _, _, _)) hj89_18 rfl rfl rfl rfl ?_
            refine hq_F.st (s' := (20, _, _, _)) hj89_19 rfl rfl rfl rfl ?_
            exact ih (n := n6) (i := i + 1) (j := 0) (by omega) (by omega) le6 h6 (hL5.fr F6 (by decide) (by decide)) o6 (FZ.tr F6) (z6.trans hzZ) (by omega) (fun K hK hKd z hz => hR K hK hKd z (Rc.st (by rw [sn_s2]; unfold sn_wh; rw [if_neg (by omega)]; exact if_pos (Or.inr hk)) (by rw [hKd rfl]; exact go6 K hK (fun q => absurd q (by decide)) z hz))) (hg_nr (hg_nr g0 (by decide)) (by decide)) (hg_ne (hg_ne g1 (by decide)) (by decide)) (by rw [← hn_s]; exact (hg_ne (pi_get_set _ _ _) (by decide))) (pi_get_set _ _ _)
          · skip
            refine hq_F.st (s' := (16, _, _, _)) hj89_13 rfl rfl rfl (hs_ifn (t := 18) (ci_nen (by omega)) rfl) ?_
            refine hq_F.st (s' := (17, _, _, _)) hj89_16 rfl rfl rfl rfl ?_
            refine hq_F.en hj89_17 rfl rfl ?_
            exact ⟨hC6, FZ.tr F6, Or.inr ⟨rfl, k, p, q1, fun K hK hKd => hR K hK hKd _ (Rc.st (by rw [sn_s2]; unfold sn_wh; rw [if_neg (by omega)]; exact if_pos (Or.inr hk)) (by rw [hKd rfl]; exact go6 K hK (fun q => absurd q (by decide))))⟩⟩
        · skip
          refine hq_F.st (s' := (99, _, _, _)) hj89_96 rfl rfl rfl (hs_icn (t := 101) (ci_eqn (by omega)) rfl) ?_
          refine hq_F.st (s' := (100, _, _, _)) hj89_99 rfl rfl rfl rfl ?_
          refine hq_F.en hj89_100 rfl rfl ?_
          exact ⟨h.1, hF, Or.inl ⟨rfl, hz0, t, n, h, o, by omega, by omega, fun _ => ⟨by omega, by omega⟩, hR⟩⟩
      · skip
        refine hq_F.st (s' := (76, _, _, _)) hj89_73 rfl rfl rfl (hs_ifn (t := 87) (ci_len (by omega)) rfl) ?_
        refine hq_F.st (s' := (77, _, _, _)) hj89_76 rfl rfl rfl (hs_al g0) ?_
        refine hq_F.st (s' := (80, _, _, _)) hj89_77 rfl rfl rfl (hq_gf h.1 sh_27 sk_8_19 (hq_ref h.1 sh_27 (b := 22) rfl)) ?_
        refine hq_F.st (s' := (82, _, _, _)) hj89_80 rfl rfl rfl rfl ?_
        refine hq_F.st (s' := (83, _, _, _)) hj89_82 rfl rfl rfl rfl ?_
        refine hq_F.st (s' := (84, _, _, _)) hj89_83 rfl rfl rfl rfl ?_
        refine hq_F.call hj89_84 rfl rfl si_8_57 (by decide) (by decide) sz_82 (sy_argsV h.1 sh_22 rfl rfl rfl (Nat.le_of_ble_eq_true rfl) rfl (Nat.le_of_ble_eq_true rfl) rfl (by decide)) (sc_add (d := d + 2) (by omega) h.1) (fun _ _ q => by rw [q.2.1.1, h.1.1]) ?_
        rintro r84 w4 ⟨rfl, hC4, F4⟩
        try dsimp only
        refine hq_F.st (s' := (88, _, _, _)) hj89_87 rfl rfl rfl (hs_al g0) ?_
        refine hq_F.st (s' := (91, _, _, _)) hj89_88 rfl rfl rfl (hq_gf hC4 sh_27 sk_8_9 (hq_ref hC4 sh_27 (b := 1) rfl)) ?_
        refine hq_F.st (s' := (94, _, _, _)) hj89_91 rfl rfl rfl (hq_gf hC4 sh_1 sk_8_51 (sy_v hC4 (by decide) rfl)) ?_
        have h9 : (gv w4 1 9).toInt = ls_k t := (h.fr hC4 F4 rfl).2.2.2.2.1.2.2.2.2.1
        refine hq_F.st (s' := (96, _, _, _)) hj89_94 rfl rfl rfl rfl ?_
        by_cases b96 : ((gv w4 1 9)).toInt = 17
        · skip
          refine hq_F.st (s' := (101, _, _, _)) hj89_96 rfl rfl rfl (hs_ic (ci_eq (by omega)) rfl) ?_
          have hk : ls_k t = 17 := by omega
          have h2t : 2 ≤ t.1 := by rw [ls_k2 (t := t) (by omega)]; omega
          refine hq_F.st (s' := (102, _, _, _)) hj89_101 rfl rfl rfl (hs_al g0) ?_
          refine hq_F.st (s' := (105, _, _, _)) hj89_102 rfl rfl rfl (hq_gf hC4 sh_27 sk_8_9 (hq_ref hC4 sh_27 (b := 1) rfl)) ?_
          refine hq_F.call hj89_105 rfl rfl si_8_54 (by decide) (by decide) sz_98 (sy_argsV hC4 sh_1 rfl rfl rfl (Nat.le_of_ble_eq_true rfl) rfl (Nat.le_of_ble_eq_true rfl) rfl (by decide)) (ct_adv (d := d) (h.fr hC4 F4 rfl) h2t) (fun _ _ q => by rw [q.2.1.1.1, hC4.1]) ?_
          rintro r105 w5 ⟨rfl, h5, F5⟩
          try dsimp only
          have hL5 := (hL.fr F4 (by decide) (by decide)).fr F5 (by decide) (by decide)
          have o5 : (gv w5 27 3).toInt = (n : Int) := by rw [gv_eq (hq_cell F5 (by decide)), gv_eq (hq_cell F4 (by decide))]; exact o
          have FZ : af_Fr sc_N w0 w5 := hF.tr ((F4.cov (by decide)).tr (F5.cov (by decide)))
          have hzZ : gv w5 1 10 = gv w0 1 10 := (gv_eq (F5 1 10 (by decide))).trans ((gv_eq (hq_cell F4 (by decide))).trans hz0)
          refine hq_F.st (s' := (111, _, _, _)) hj89_108 rfl rfl rfl (hs_inc g2 (by decide)) ?_
          refine hq_F.st (s' := (2, _, _, _)) hj89_111 rfl rfl rfl rfl ?_
          refine hq_F.st (s' := (3, _, _, _)) hj89_2 rfl rfl rfl (hs_iln (pi_get_set _ _ _)) ?_
          refine hq_F.st (s' := (5, _, _, _)) hj89_3 rfl rfl rfl rfl ?_
          have ti1 : (Int32.ofNat i + Int32.ofInt 1).toInt = (i : Int) + 1 := by rw [hn_s, hn_t (by omega)]; omega
          refine hq_F.st (s' := (8, _, _, _)) hj89_5 rfl rfl rfl (hs_icn (t := 114) (ci_gtn (by omega)) rfl) ?_
          refine hq_F.st (s' := (9, _, _, _)) hj89_8 rfl rfl rfl (hs_al (hg_nr g0 (by decide))) ?_
          refine hq_F.st (s' := (10, _, _, _)) hj89_9 rfl rfl rfl (hs_iln (hg_ne g1 (by decide))) ?_
          refine hq_F.call hj89_10 rfl rfl si_8_48 (by decide) (by decide) sz_90 (sy_argsV h5.1 sh_27 rfl rfl rfl (Nat.le_of_ble_eq_true rfl) rfl (Nat.le_of_ble_eq_true rfl) rfl (by decide)) (H1 w5 (tq_nx tp B 200 t) n h5 hL5 o5 (by omega)) (fun _ _ q => by rw [q.1.1, h5.1.1]) ?_
          rintro r10 w6 ⟨hC6, F6, q⟩
          try dsimp only
          rcases q with ⟨rfl, z6, t6, n6, h6, o6, lt6, le6, cc6, go6⟩ | ⟨rfl, k, p, q1, go6⟩
          · skip
            refine hq_F.st (s' := (18, _, _, _)) hj89_13 rfl rfl rfl (hs_if (ci_ne (by omega)) rfl) ?_
            refine hq_F.st (s' := (19, _, _, _)) hj89_18 rfl rfl rfl rfl ?_
            refine hq_F.st (s' := (20, _, _, _)) hj89_19 rfl rfl rfl rfl ?_
            exact ih (n := n6) (i := i + 1) (j := 0) (by omega) (by omega) le6 h6 (hL5.fr F6 (by decide) (by decide)) o6 (FZ.tr F6) (z6.trans hzZ) (by omega) (fun K hK hKd z hz => hR K hK hKd z (Rc.st (by rw [sn_s2]; unfold sn_wh; rw [if_neg (by omega)]; exact if_pos (Or.inr hk)) (by rw [hKd rfl]; exact go6 K hK (fun q => absurd q (by decide)) z hz))) (hg_nr (hg_nr g0 (by decide)) (by decide)) (hg_ne (hg_ne g1 (by decide)) (by decide)) (by rw [← hn_s]; exact (hg_ne (pi_get_set _ _ _) (by decide))) (pi_get_set _ _ _)
          · skip
            refine hq_F.st (s' := (16, _, _, _)) hj89_13 rfl rfl rfl (hs_ifn (t := 18) (ci_nen (by omega)) rfl) ?_
            refine hq_F.st (s' := (17, _, _, _)) hj89_16 rfl rfl rfl rfl ?_
            refine hq_F.en hj89_17 rfl rfl ?_
            exact ⟨hC6, FZ.tr F6, Or.inr ⟨rfl, k, p, q1, fun K hK hKd => hR K hK hKd _ (Rc.st (by rw [sn_s2]; unfold sn_wh; rw [if_neg (by omega)]; exact if_pos (Or.inr hk)) (by rw [hKd rfl]; exact go6 K hK (fun q => absurd q (by decide))))⟩⟩
        · skip
          refine hq_F.st (s' := (99, _, _, _)) hj89_96 rfl rfl rfl (hs_icn (t := 101) (ci_eqn (by omega)) rfl) ?_
          refine hq_F.st (s' := (100, _, _, _)) hj89_99 rfl rfl rfl rfl ?_
          refine hq_F.en hj89_100 rfl rfl ?_
          exact ⟨hC4, hF.tr (F4.cov (by decide)), Or.inl ⟨rfl, (gv_eq (hq_cell F4 (by decide))).trans hz0, t, n, h.fr hC4 F4 rfl, by rw [gv_eq (hq_cell F4 (by decide))]; exact o, by omega, by omega, fun _ => ⟨by omega, by omega⟩, hR⟩⟩
    · skip
      refine hq_F.st (s' := (38, _, _, _)) hj89_35 rfl rfl rfl (hs_icn (t := 72) (ci_nen (by omega)) rfl) ?_
      have hk : ls_k t = 18 := by omega
      have h2t : 2 ≤ t.1 := by rw [ls_k2 (t := t) (by omega)]; omega
      refine hq_F.st (s' := (39, _, _, _)) hj89_38 rfl rfl rfl (hs_al g0) ?_
      refine hq_F.st (s' := (42, _, _, _)) hj89_39 rfl rfl rfl (hq_gf h.1 sh_27 sk_8_9 (hq_ref h.1 sh_27 (b := 1) rfl)) ?_
      refine hq_F.call hj89_42 rfl rfl si_8_54 (by decide) (by decide) sz_98 (sy_argsV h.1 sh_1 rfl rfl rfl (Nat.le_of_ble_eq_true rfl) rfl (Nat.le_of_ble_eq_true rfl) rfl (by decide)) (ct_adv (d := d) h h2t) (fun _ _ q => by rw [q.2.1.1.1, h.1.1]) ?_
      rintro r42 w1 ⟨rfl, h1, F1⟩
      try dsimp only
      refine hq_F.st (s' := (46, _, _, _)) hj89_45 rfl rfl rfl (hs_al g0) ?_
      refine hq_F.st (s' := (47, _, _, _)) hj89_46 rfl rfl rfl (hs_iln g1) ?_
      refine hq_F.call hj89_47 rfl rfl si_8_48 (by decide) (by decide) sz_90 (sy_argsV h1.1 sh_27 rfl rfl rfl (Nat.le_of_ble_eq_true rfl) rfl (Nat.le_of_ble_eq_true rfl) rfl (by decide)) (H1 w1 (tq_nx tp B 200 t) n h1 (hL.fr F1 (by decide) (by decide)) (by rw [gv_eq (hq_cell F1 (by decide))]; exact o) (by omega)) (fun _ _ q => by rw [q.1.1, h1.1.1]) ?_
      rintro r47 w2 ⟨hC2, F2, q⟩
      try dsimp only
      rcases q with ⟨rfl, z2, t2, n2, h2, o2, lt2, le2, cc2, go2⟩ | ⟨rfl, k, p, q1, go2⟩
      · skip
        refine hq_F.st (s' := (55, _, _, _)) hj89_50 rfl rfl rfl (hs_if (ci_ne (by omega)) rfl) ?_
        refine hq_F.st (s' := (56, _, _, _)) hj89_55 rfl rfl rfl (hs_al g0) ?_
        refine hq_F.st (s' := (59, _, _, _)) hj89_56 rfl rfl rfl (hq_gf hC2 sh_27 sk_8_19 (hq_ref hC2 sh_27 (b := 22) rfl)) ?_
        refine hq_F.st (s' := (61, _, _, _)) hj89_59 rfl rfl rfl rfl ?_
        refine hq_F.st (s' := (62, _, _, _)) hj89_61 rfl rfl rfl rfl ?_
        refine hq_F.st (s' := (63, _, _, _)) hj89_62 rfl rfl rfl rfl ?_
        refine hq_F.call hj89_63 rfl rfl si_8_57 (by decide) (by decide) sz_82 (sy_argsV hC2 sh_22 rfl rfl rfl (Nat.le_of_ble_eq_true rfl) rfl (Nat.le_of_ble_eq_true rfl) rfl (by decide)) (sc_add (d := d + 2) (by omega) hC2) (fun _ _ q => by rw [q.2.1.1, hC2.1]) ?_
        rintro r63 w3 ⟨rfl, hC3, F3⟩
        try dsimp only
        refine hq_F.st (s' := (69, _, _, _)) hj89_66 rfl rfl rfl (hs_inc g3 (by decide)) ?_
        refine hq_F.st (s' := (20, _, _, _)) hj89_69 rfl rfl rfl rfl ?_
        exact ih (n := n2) (i := i) (j := j + 1) (by omega) (by omega) le2 (h2.fr hC3 F3 rfl) (((hL.fr F1 (by decide) (by decide)).fr F2 (by decide) (by decide)).fr F3 (by decide) (by decide)) (by rw [gv_eq (hq_cell F3 (by decide))]; exact o2) (hF.tr ((F1.cov (by decide)).tr (F2.tr (F3.cov (by decide))))) ((gv_eq (hq_cell F3 (by decide))).trans (z2.trans ((gv_eq (F1 1 10 (by decide))).trans hz0))) (by omega) (fun K hK hKd z hz => hR K hK hKd z (Rc.st (by rw [sn_s2]; unfold sn_wh; rw [if_neg (by omega)]; exact if_pos (Or.inl hk)) (by rw [hKd rfl]; exact go2 K hK (fun q => absurd q (by decide)) z hz))) (hg_nr g0 (by decide)) (hg_ne g1 (by decide)) (hg_ne g2 (by decide)) (by rw [← hn_s]; exact (pi_get_set _ _ _))
      · skip
        refine hq_F.st (s' := (53, _, _, _)) hj89_50 rfl rfl rfl (hs_ifn (t := 55) (ci_nen (by omega)) rfl) ?_
        refine hq_F.st (s' := (54, _, _, _)) hj89_53 rfl rfl rfl rfl ?_
        refine hq_F.en hj89_54 rfl rfl ?_
        exact ⟨hC2, hF.tr ((F1.cov (by decide)).tr F2), Or.inr ⟨rfl, k, p, q1, fun K hK hKd => hR K hK hKd _ (Rc.st (by rw [sn_s2]; unfold sn_wh; rw [if_neg (by omega)]; exact if_pos (Or.inl hk)) (by rw [hKd rfl]; exact go2 K hK (fun q => absurd q (by decide))))⟩⟩
theorem sc_cond {d B nr dp : Nat} {tp : Nat → Nat} {A : ld_A} {NT : List nt_E} (H1 : sc_One tp B A nr NT dp (d + 2)) (hd : 1 ≤ d) : sc_Cond tp B A nr NT dp (d + 3) := by
  intro w t n h hL o hn
  have g0 : pi_get (lv_args 0 [.ref 27, .int (Int32.ofNat dp)]) 0 = some (.ref 27) := rfl
  have g1 : pi_get (lv_args 0 [.ref 27, .int (Int32.ofNat dp)]) 1 = some (.int (Int32.ofNat dp)) := rfl
  have kc0 : (((Int8.ofInt 20).toInt32)).toInt = 20 := by decide
  have kc1 : ((0 : Int32)).toInt = 0 := by decide
  have kc2 : ((1 : Int32)).toInt = 1 := by decide
  have kc3 : ((Int32.ofInt 0)).toInt = 0 := by decide
  have kz := sy_z0
  refine hq_F.st (s' := (1, _, _, _)) hj89_0 rfl rfl rfl rfl ?_
  refine hq_F.st (s' := (2, _, _, _)) hj89_1 rfl rfl rfl rfl ?_
  refine hq_F.st (s' := (3, _, _, _)) hj89_2 rfl rfl rfl (hs_iln (pi_get_set _ _ _)) ?_
  refine hq_F.st (s' := (5, _, _, _)) hj89_3 rfl rfl rfl rfl ?_
  refine hq_F.st (s' := (8, _, _, _)) hj89_5 rfl rfl rfl (hs_icn (t := 114) (ci_gtn (by omega)) rfl) ?_
  refine hq_F.st (s' := (9, _, _, _)) hj89_8 rfl rfl rfl (hs_al (hg_nr g0 (by decide))) ?_
  refine hq_F.st (s' := (10, _, _, _)) hj89_9 rfl rfl rfl (hs_iln (hg_ne g1 (by decide))) ?_
  refine hq_F.call hj89_10 rfl rfl si_8_48 (by decide) (by decide) sz_90 (sy_argsV h.1 sh_27 rfl rfl rfl (Nat.le_of_ble_eq_true rfl) rfl (Nat.le_of_ble_eq_true rfl) rfl (by decide)) (H1 w t n h hL o hn) (fun _ _ q => by rw [q.1.1, h.1.1]) ?_
  rintro r10 w6 ⟨hC6, F6, q⟩
  try dsimp only
  rcases q with ⟨rfl, z6, t6, n6, h6, o6, lt6, le6, cc6, go6⟩ | ⟨rfl, k, p, q1, go6⟩
  · skip
    refine hq_F.st (s' := (18, _, _, _)) hj89_13 rfl rfl rfl (hs_if (ci_ne (by omega)) rfl) ?_
    refine hq_F.st (s' := (19, _, _, _)) hj89_18 rfl rfl rfl rfl ?_
    refine hq_F.st (s' := (20, _, _, _)) hj89_19 rfl rfl rfl rfl ?_
    exact sc_cl H1 hd 20 (i := 0) (j := 0) (by omega) (by omega) le6 h6 (hL.fr F6 (by decide) (by decide)) o6 F6 z6 (by omega) (fun K hK _ z hz => go6 K hK (fun q => absurd q (by decide)) z hz) (hg_nr (hg_nr g0 (by decide)) (by decide)) (hg_ne (hg_ne g1 (by decide)) (by decide)) (hg_ne (pi_get_set _ _ _) (by decide)) (pi_get_set _ _ _)
  · skip
    refine hq_F.st (s' := (16, _, _, _)) hj89_13 rfl rfl rfl (hs_ifn (t := 18) (ci_nen (by omega)) rfl) ?_
    refine hq_F.st (s' := (17, _, _, _)) hj89_16 rfl rfl rfl rfl ?_
    refine hq_F.en hj89_17 rfl rfl ?_
    exact ⟨hC6, F6, Or.inr ⟨rfl, k, p, q1, fun K hK _ => go6 K hK (fun q => absurd q (by decide))⟩⟩
theorem sc_all {B nr : Nat} {tp : Nat → Nat} {A : ld_A} {NT : List nt_E} (ho : nt_ok NT) (hcs : nt_cs NT) : ∀ (e dp : Nat), dp + e = 9 → sc_One tp B A nr NT dp (2 * e + 5)
  | 0, dp, h => sc_one (d := 1) (Nat.le_refl _) (by omega) ho hcs (fun q => by omega) (fun q => by omega)
  | e + 1, dp, h => by
    have h1 := sc_all (tp := tp) (B := B) (nr := nr) (A := A) ho hcs e (dp + 1) (by omega)
    have h2 : sc_Cond tp B A nr NT (dp + 1) (2 * e + 3 + 3) := sc_cond (d := 2 * e + 3) h1 (by omega)
    exact sc_one (d := 2 * e + 3) (by omega) (by omega) ho hcs (fun _ => h1) (fun _ => h2)
