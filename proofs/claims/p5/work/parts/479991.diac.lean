/-! ===== the DIARY in the class; by program ===== -/
theorem sk_0_15 : pi_look pi_fT 0 15 = some (0, 1, 332) := rfl
theorem sk_0_19 : pi_look pi_fT 0 19 = some (0, 2, 333) := rfl
theorem sk_0_23 : pi_look pi_fT 0 23 = some (0, 3, 335) := rfl
theorem sk_0_26 : pi_look pi_fT 0 26 = some (0, 4, 337) := rfl
theorem sk_0_29 : pi_look pi_fT 0 29 = some (0, 5, 339) := rfl
theorem sk_0_39 : pi_look pi_fT 0 39 = some (9, 5, 174) := rfl
theorem sk_0_56 : pi_look pi_fT 0 56 = some (9, 9, 184) := rfl
theorem sk_0_9 : pi_look pi_fT 0 9 = some (0, 0, 331) := rfl
theorem si_0_33 : pi_look pi_iT 0 33 = some (2, 97, 1, 1004) := rfl
theorem si_0_42 : pi_look pi_iT 0 42 = some (2, 2, 0, 1005) := rfl
theorem si_0_46 : pi_look pi_iT 0 46 = some (2, 105, 1, 1028) := rfl
theorem si_0_50 : pi_look pi_iT 0 50 = some (2, 107, 0, 1009) := rfl
theorem si_0_53 : pi_look pi_iT 0 53 = some (2, 3, 0, 1010) := rfl
theorem si_0_59 : pi_look pi_iT 0 59 = some (2, 103, 1, 1019) := rfl
theorem si_0_63 : pi_look pi_iT 0 63 = some (2, 4, 0, 1015) := rfl
theorem si_0_66 : pi_look pi_iT 0 66 = some (2, 106, 2, 1027) := rfl
theorem si_0_70 : pi_look pi_iT 0 70 = some (2, 5, 3, 1022) := rfl
theorem si_0_76 : pi_look pi_iT 0 76 = some (2, 109, 2, 1021) := rfl
theorem si_0_80 : pi_look pi_iT 0 80 = some (2, 108, 2, 1014) := rfl
theorem si_0_83 : pi_look pi_iT 0 83 = some (2, 98, 0, 1020) := rfl
theorem si_0_86 : pi_look pi_iT 0 86 = some (1, 160, 3, 1026) := rfl
def sm1 : pi_M := (0, 2, (some .boolean), false, mc_1)
def sm2 : pi_M := (0, 3, (some .boolean), false, mc_2)
def sm3 : pi_M := (0, 3, (some .boolean), false, mc_3)
def sm4 : pi_M := (0, 1, (some .boolean), false, mc_4)
def sm5 : pi_M := (0, 4, (some .boolean), false, mc_5)
def sf_28 : List (Nat ⊕ (Int × Int) ⊕ Unit) := match (aw_Sh[28]? : Option af_C) with
  | some (.inr (_, f)) => f
  | _ => []
theorem sh_28 : aw_Sh[28]? = some (.inr (0, sf_28)) := rfl
def sf_29 : List (Nat × Int × Int) := match (aw_Sh[29]? : Option af_C) with
  | some (.inl (_, _, S)) => S
  | _ => []
theorem sh_29 : aw_Sh[29]? = some (.inl (0, 40, sf_29)) := rfl
def sf_30 : List (Nat × Int × Int) := match (aw_Sh[30]? : Option af_C) with
  | some (.inl (_, _, S)) => S
  | _ => []
theorem sh_30 : aw_Sh[30]? = some (.inl (0, 40, sf_30)) := rfl
def sf_31 : List (Nat × Int × Int) := match (aw_Sh[31]? : Option af_C) with
  | some (.inl (_, _, S)) => S
  | _ => []
theorem sh_31 : aw_Sh[31]? = some (.inl (0, 40, sf_31)) := rfl
set_option maxRecDepth 100000 in
theorem sz_1 : pi_mt[1]? = some (mn_1, prog_2_method_2_code, (0, 2, (some .boolean), false, mc_1)) := rfl
set_option maxRecDepth 100000 in
theorem sz_2 : pi_mt[2]? = some (mn_2, prog_2_method_3_code, (0, 3, (some .boolean), false, mc_2)) := rfl
set_option maxRecDepth 100000 in
theorem sz_3 : pi_mt[3]? = some (mn_3, prog_2_method_4_code, (0, 3, (some .boolean), false, mc_3)) := rfl
set_option maxRecDepth 100000 in
theorem sz_4 : pi_mt[4]? = some (mn_4, prog_2_method_5_code, (0, 1, (some .boolean), false, mc_4)) := rfl
set_option maxRecDepth 100000 in
theorem sz_5 : pi_mt[5]? = some (mn_5, prog_2_method_6_code, (0, 4, (some .boolean), false, mc_5)) := rfl
theorem hj1_0 : pi_fetch mc_1 0 = some (.aload_n 0, 1) := rfl
theorem hj1_1 : pi_fetch mc_1 1 = some (.iconst 0, 1) := rfl
theorem hj1_2 : pi_fetch mc_1 2 = some (.putfield 29, 3) := rfl
theorem hj1_5 : pi_fetch mc_1 5 = some (.aload_n 0, 1) := rfl
theorem hj1_6 : pi_fetch mc_1 6 = some (.getfield 9, 3) := rfl
theorem hj1_9 : pi_fetch mc_1 9 = some (.sipush 400, 3) := rfl
theorem hj1_12 : pi_fetch mc_1 12 = some (.invokevirtual 33, 3) := rfl
theorem hj1_15 : pi_fetch mc_1 15 = some (.iconst 0, 1) := rfl
theorem hj1_16 : pi_fetch mc_1 16 = some (.istore_n 1, 1) := rfl
theorem hj1_17 : pi_fetch mc_1 17 = some (.iload_n 1, 1) := rfl
theorem hj1_18 : pi_fetch mc_1 18 = some (.bipush 40, 2) := rfl
theorem hj1_20 : pi_fetch mc_1 20 = some (.if_icmp .gt 42, 3) := rfl
theorem hj1_23 : pi_fetch mc_1 23 = some (.aload_n 0, 1) := rfl
theorem hj1_24 : pi_fetch mc_1 24 = some (.getfield 9, 3) := rfl
theorem hj1_27 : pi_fetch mc_1 27 = some (.getfield 39, 3) := rfl
theorem hj1_30 : pi_fetch mc_1 30 = some (.ifCond .ne 5, 3) := rfl
theorem hj1_33 : pi_fetch mc_1 33 = some (.iconst 1, 1) := rfl
theorem hj1_34 : pi_fetch mc_1 34 = some (.ireturn, 1) := rfl
theorem hj1_35 : pi_fetch mc_1 35 = some (.aload_n 0, 1) := rfl
theorem hj1_36 : pi_fetch mc_1 36 = some (.invokevirtual 42, 3) := rfl
theorem hj1_39 : pi_fetch mc_1 39 = some (.ifCond .eq 15, 3) := rfl
theorem hj1_42 : pi_fetch mc_1 42 = some (.aload_n 0, 1) := rfl
theorem hj1_43 : pi_fetch mc_1 43 = some (.getfield 9, 3) := rfl
theorem hj1_46 : pi_fetch mc_1 46 = some (.bipush 59, 2) := rfl
theorem hj1_48 : pi_fetch mc_1 48 = some (.invokevirtual 46, 3) := rfl
theorem hj1_51 : pi_fetch mc_1 51 = some (.ifCond .ne 5, 3) := rfl
theorem hj1_54 : pi_fetch mc_1 54 = some (.iconst 0, 1) := rfl
theorem hj1_55 : pi_fetch mc_1 55 = some (.ireturn, 1) := rfl
theorem hj1_56 : pi_fetch mc_1 56 = some (.iinc 1 1, 3) := rfl
theorem hj1_59 : pi_fetch mc_1 59 = some (.goto (-42), 3) := rfl
theorem hj1_62 : pi_fetch mc_1 62 = some (.iconst 0, 1) := rfl
theorem hj1_63 : pi_fetch mc_1 63 = some (.ireturn, 1) := rfl
theorem hj2_0 : pi_fetch mc_2 0 = some (.aload_n 0, 1) := rfl
theorem hj2_1 : pi_fetch mc_2 1 = some (.getfield 9, 3) := rfl
theorem hj2_4 : pi_fetch mc_2 4 = some (.invokevirtual 50, 3) := rfl
theorem hj2_7 : pi_fetch mc_2 7 = some (.ifCond .eq 8, 3) := rfl
theorem hj2_10 : pi_fetch mc_2 10 = some (.aload_n 0, 1) := rfl
theorem hj2_11 : pi_fetch mc_2 11 = some (.invokevirtual 53, 3) := rfl
theorem hj2_14 : pi_fetch mc_2 14 = some (.ireturn, 1) := rfl
theorem hj2_15 : pi_fetch mc_2 15 = some (.aload_n 0, 1) := rfl
theorem hj2_16 : pi_fetch mc_2 16 = some (.getfield 9, 3) := rfl
theorem hj2_19 : pi_fetch mc_2 19 = some (.getfield 56, 3) := rfl
theorem hj2_22 : pi_fetch mc_2 22 = some (.istore_n 1, 1) := rfl
theorem hj2_23 : pi_fetch mc_2 23 = some (.iload_n 1, 1) := rfl
theorem hj2_24 : pi_fetch mc_2 24 = some (.bipush 14, 2) := rfl
theorem hj2_26 : pi_fetch mc_2 26 = some (.if_icmp .eq 24, 3) := rfl
theorem hj2_29 : pi_fetch mc_2 29 = some (.iload_n 1, 1) := rfl
theorem hj2_30 : pi_fetch mc_2 30 = some (.bipush 15, 2) := rfl
theorem hj2_32 : pi_fetch mc_2 32 = some (.if_icmp .eq 18, 3) := rfl
theorem hj2_35 : pi_fetch mc_2 35 = some (.iload_n 1, 1) := rfl
theorem hj2_36 : pi_fetch mc_2 36 = some (.bipush 16, 2) := rfl
theorem hj2_38 : pi_fetch mc_2 38 = some (.if_icmp .eq 12, 3) := rfl
theorem hj2_41 : pi_fetch mc_2 41 = some (.aload_n 0, 1) := rfl
theorem hj2_42 : pi_fetch mc_2 42 = some (.getfield 9, 3) := rfl
theorem hj2_45 : pi_fetch mc_2 45 = some (.iconst 1, 1) := rfl
theorem hj2_46 : pi_fetch mc_2 46 = some (.invokevirtual 59, 3) := rfl
theorem hj2_49 : pi_fetch mc_2 49 = some (.ireturn, 1) := rfl
theorem hj2_50 : pi_fetch mc_2 50 = some (.aload_n 0, 1) := rfl
theorem hj2_51 : pi_fetch mc_2 51 = some (.invokevirtual 63, 3) := rfl
theorem hj2_54 : pi_fetch mc_2 54 = some (.ifCond .ne 5, 3) := rfl
theorem hj2_57 : pi_fetch mc_2 57 = some (.iconst 0, 1) := rfl
theorem hj2_58 : pi_fetch mc_2 58 = some (.ireturn, 1) := rfl
theorem hj2_59 : pi_fetch mc_2 59 = some (.iload_n 1, 1) := rfl
theorem hj2_60 : pi_fetch mc_2 60 = some (.bipush 16, 2) := rfl
theorem hj2_62 : pi_fetch mc_2 62 = some (.if_icmp .ne 20, 3) := rfl
theorem hj2_65 : pi_fetch mc_2 65 = some (.aload_n 0, 1) := rfl
theorem hj2_66 : pi_fetch mc_2 66 = some (.iload_n 1, 1) := rfl
theorem hj2_67 : pi_fetch mc_2 67 = some (.aload_n 0, 1) := rfl
theorem hj2_68 : pi_fetch mc_2 68 = some (.getfield 9, 3) := rfl
theorem hj2_71 : pi_fetch mc_2 71 = some (.iconst 1, 1) := rfl
theorem hj2_72 : pi_fetch mc_2 72 = some (.bipush 60, 2) := rfl
theorem hj2_74 : pi_fetch mc_2 74 = some (.invokevirtual 66, 3) := rfl
theorem hj2_77 : pi_fetch mc_2 77 = some (.iconst 0, 1) := rfl
theorem hj2_78 : pi_fetch mc_2 78 = some (.invokevirtual 70, 3) := rfl
theorem hj2_81 : pi_fetch mc_2 81 = some (.ireturn, 1) := rfl
theorem hj2_82 : pi_fetch mc_2 82 = some (.iload_n 1, 1) := rfl
theorem hj2_83 : pi_fetch mc_2 83 = some (.bipush 15, 2) := rfl
theorem hj2_85 : pi_fetch mc_2 85 = some (.if_icmp .ne 22, 3) := rfl
theorem hj2_88 : pi_fetch mc_2 88 = some (.aload_n 0, 1) := rfl
theorem hj2_89 : pi_fetch mc_2 89 = some (.iload_n 1, 1) := rfl
theorem hj2_90 : pi_fetch mc_2 90 = some (.aload_n 0, 1) := rfl
theorem hj2_91 : pi_fetch mc_2 91 = some (.getfield 9, 3) := rfl
theorem hj2_94 : pi_fetch mc_2 94 = some (.aload_n 0, 1) := rfl
theorem hj2_95 : pi_fetch mc_2 95 = some (.getfield 15, 3) := rfl
theorem hj2_98 : pi_fetch mc_2 98 = some (.iconst 0, 1) := rfl
theorem hj2_99 : pi_fetch mc_2 99 = some (.invokevirtual 76, 3) := rfl
theorem hj2_102 : pi_fetch mc_2 102 = some (.iconst 0, 1) := rfl
theorem hj2_103 : pi_fetch mc_2 103 = some (.invokevirtual 70, 3) := rfl
theorem hj2_106 : pi_fetch mc_2 106 = some (.ireturn, 1) := rfl
theorem hj2_107 : pi_fetch mc_2 107 = some (.aload_n 0, 1) := rfl
theorem hj2_108 : pi_fetch mc_2 108 = some (.getfield 9, 3) := rfl
theorem hj2_111 : pi_fetch mc_2 111 = some (.aload_n 0, 1) := rfl
theorem hj2_112 : pi_fetch mc_2 112 = some (.getfield 15, 3) := rfl
theorem hj2_115 : pi_fetch mc_2 115 = some (.iconst 3, 1) := rfl
theorem hj2_116 : pi_fetch mc_2 116 = some (.invokevirtual 76, 3) := rfl
theorem hj2_119 : pi_fetch mc_2 119 = some (.istore_n 2, 1) := rfl
theorem hj2_120 : pi_fetch mc_2 120 = some (.iload_n 2, 1) := rfl
theorem hj2_121 : pi_fetch mc_2 121 = some (.iconst (-1), 1) := rfl
theorem hj2_122 : pi_fetch mc_2 122 = some (.if_icmp .eq 28, 3) := rfl
theorem hj2_125 : pi_fetch mc_2 125 = some (.aload_n 0, 1) := rfl
theorem hj2_126 : pi_fetch mc_2 126 = some (.iload_n 1, 1) := rfl
theorem hj2_127 : pi_fetch mc_2 127 = some (.iload_n 2, 1) := rfl
theorem hj2_128 : pi_fetch mc_2 128 = some (.aload_n 0, 1) := rfl
theorem hj2_129 : pi_fetch mc_2 129 = some (.getfield 9, 3) := rfl
theorem hj2_132 : pi_fetch mc_2 132 = some (.aload_n 0, 1) := rfl
theorem hj2_133 : pi_fetch mc_2 133 = some (.getfield 15, 3) := rfl
theorem hj2_136 : pi_fetch mc_2 136 = some (.iconst 0, 1) := rfl
theorem hj2_137 : pi_fetch mc_2 137 = some (.invokevirtual 76, 3) := rfl
theorem hj2_140 : pi_fetch mc_2 140 = some (.invokevirtual 70, 3) := rfl
theorem hj2_143 : pi_fetch mc_2 143 = some (.ifCond .eq 7, 3) := rfl
theorem hj2_146 : pi_fetch mc_2 146 = some (.iconst 1, 1) := rfl
theorem hj2_147 : pi_fetch mc_2 147 = some (.goto 4, 3) := rfl
theorem hj2_150 : pi_fetch mc_2 150 = some (.iconst 0, 1) := rfl
theorem hj2_151 : pi_fetch mc_2 151 = some (.ireturn, 1) := rfl
theorem hj3_0 : pi_fetch mc_3 0 = some (.aload_n 0, 1) := rfl
theorem hj3_1 : pi_fetch mc_3 1 = some (.getfield 9, 3) := rfl
theorem hj3_4 : pi_fetch mc_3 4 = some (.aload_n 0, 1) := rfl
theorem hj3_5 : pi_fetch mc_3 5 = some (.getfield 15, 3) := rfl
theorem hj3_8 : pi_fetch mc_3 8 = some (.iconst 4, 1) := rfl
theorem hj3_9 : pi_fetch mc_3 9 = some (.invokevirtual 80, 3) := rfl
theorem hj3_12 : pi_fetch mc_3 12 = some (.istore_n 1, 1) := rfl
theorem hj3_13 : pi_fetch mc_3 13 = some (.iload_n 1, 1) := rfl
theorem hj3_14 : pi_fetch mc_3 14 = some (.iconst (-1), 1) := rfl
theorem hj3_15 : pi_fetch mc_3 15 = some (.if_icmp .eq 10, 3) := rfl
theorem hj3_18 : pi_fetch mc_3 18 = some (.aload_n 0, 1) := rfl
theorem hj3_19 : pi_fetch mc_3 19 = some (.invokevirtual 63, 3) := rfl
theorem hj3_22 : pi_fetch mc_3 22 = some (.ifCond .ne 5, 3) := rfl
theorem hj3_25 : pi_fetch mc_3 25 = some (.iconst 0, 1) := rfl
theorem hj3_26 : pi_fetch mc_3 26 = some (.ireturn, 1) := rfl
theorem hj3_27 : pi_fetch mc_3 27 = some (.aload_n 0, 1) := rfl
theorem hj3_28 : pi_fetch mc_3 28 = some (.getfield 9, 3) := rfl
theorem hj3_31 : pi_fetch mc_3 31 = some (.getfield 56, 3) := rfl
theorem hj3_34 : pi_fetch mc_3 34 = some (.istore_n 2, 1) := rfl
theorem hj3_35 : pi_fetch mc_3 35 = some (.iload_n 2, 1) := rfl
theorem hj3_36 : pi_fetch mc_3 36 = some (.tableswitch 103 9 13 #[36, 62, 88, 88, 88], 36) := rfl
theorem hj3_72 : pi_fetch mc_3 72 = some (.aload_n 0, 1) := rfl
theorem hj3_73 : pi_fetch mc_3 73 = some (.getfield 9, 3) := rfl
theorem hj3_76 : pi_fetch mc_3 76 = some (.invokevirtual 83, 3) := rfl
theorem hj3_79 : pi_fetch mc_3 79 = some (.aload_n 0, 1) := rfl
theorem hj3_80 : pi_fetch mc_3 80 = some (.iload_n 2, 1) := rfl
theorem hj3_81 : pi_fetch mc_3 81 = some (.iload_n 1, 1) := rfl
theorem hj3_82 : pi_fetch mc_3 82 = some (.aload_n 0, 1) := rfl
theorem hj3_83 : pi_fetch mc_3 83 = some (.getfield 9, 3) := rfl
theorem hj3_86 : pi_fetch mc_3 86 = some (.aload_n 0, 1) := rfl
theorem hj3_87 : pi_fetch mc_3 87 = some (.getfield 15, 3) := rfl
theorem hj3_90 : pi_fetch mc_3 90 = some (.iconst 0, 1) := rfl
theorem hj3_91 : pi_fetch mc_3 91 = some (.invokevirtual 76, 3) := rfl
theorem hj3_94 : pi_fetch mc_3 94 = some (.invokevirtual 70, 3) := rfl
theorem hj3_97 : pi_fetch mc_3 97 = some (.ireturn, 1) := rfl
theorem hj3_98 : pi_fetch mc_3 98 = some (.aload_n 0, 1) := rfl
theorem hj3_99 : pi_fetch mc_3 99 = some (.getfield 9, 3) := rfl
theorem hj3_102 : pi_fetch mc_3 102 = some (.invokevirtual 83, 3) := rfl
theorem hj3_105 : pi_fetch mc_3 105 = some (.aload_n 0, 1) := rfl
theorem hj3_106 : pi_fetch mc_3 106 = some (.iload_n 2, 1) := rfl
theorem hj3_107 : pi_fetch mc_3 107 = some (.iload_n 1, 1) := rfl
theorem hj3_108 : pi_fetch mc_3 108 = some (.aload_n 0, 1) := rfl
theorem hj3_109 : pi_fetch mc_3 109 = some (.getfield 9, 3) := rfl
theorem hj3_112 : pi_fetch mc_3 112 = some (.aload_n 0, 1) := rfl
theorem hj3_113 : pi_fetch mc_3 113 = some (.getfield 15, 3) := rfl
theorem hj3_116 : pi_fetch mc_3 116 = some (.iconst 2, 1) := rfl
theorem hj3_117 : pi_fetch mc_3 117 = some (.invokevirtual 76, 3) := rfl
theorem hj3_120 : pi_fetch mc_3 120 = some (.invokevirtual 70, 3) := rfl
theorem hj3_123 : pi_fetch mc_3 123 = some (.ireturn, 1) := rfl
theorem hj3_124 : pi_fetch mc_3 124 = some (.aload_n 0, 1) := rfl
theorem hj3_125 : pi_fetch mc_3 125 = some (.getfield 9, 3) := rfl
theorem hj3_128 : pi_fetch mc_3 128 = some (.invokevirtual 83, 3) := rfl
theorem hj3_131 : pi_fetch mc_3 131 = some (.aload_n 0, 1) := rfl
theorem hj3_132 : pi_fetch mc_3 132 = some (.iload_n 2, 1) := rfl
theorem hj3_133 : pi_fetch mc_3 133 = some (.iload_n 1, 1) := rfl
theorem hj3_134 : pi_fetch mc_3 134 = some (.iconst 0, 1) := rfl
theorem hj3_135 : pi_fetch mc_3 135 = some (.invokevirtual 70, 3) := rfl
theorem hj3_138 : pi_fetch mc_3 138 = some (.ireturn, 1) := rfl
theorem hj3_139 : pi_fetch mc_3 139 = some (.aload_n 0, 1) := rfl
theorem hj3_140 : pi_fetch mc_3 140 = some (.getfield 9, 3) := rfl
theorem hj3_143 : pi_fetch mc_3 143 = some (.iconst 1, 1) := rfl
theorem hj3_144 : pi_fetch mc_3 144 = some (.invokevirtual 59, 3) := rfl
theorem hj3_147 : pi_fetch mc_3 147 = some (.ireturn, 1) := rfl
theorem hj4_0 : pi_fetch mc_4 0 = some (.aload_n 0, 1) := rfl
theorem hj4_1 : pi_fetch mc_4 1 = some (.getfield 29, 3) := rfl
theorem hj4_4 : pi_fetch mc_4 4 = some (.bipush 40, 2) := rfl
theorem hj4_6 : pi_fetch mc_4 6 = some (.if_icmp .lt 12, 3) := rfl
theorem hj4_9 : pi_fetch mc_4 9 = some (.aload_n 0, 1) := rfl
theorem hj4_10 : pi_fetch mc_4 10 = some (.getfield 9, 3) := rfl
theorem hj4_13 : pi_fetch mc_4 13 = some (.iconst 4, 1) := rfl
theorem hj4_14 : pi_fetch mc_4 14 = some (.invokevirtual 59, 3) := rfl
theorem hj4_17 : pi_fetch mc_4 17 = some (.ireturn, 1) := rfl
theorem hj4_18 : pi_fetch mc_4 18 = some (.aload_n 0, 1) := rfl
theorem hj4_19 : pi_fetch mc_4 19 = some (.getfield 9, 3) := rfl
theorem hj4_22 : pi_fetch mc_4 22 = some (.invokevirtual 83, 3) := rfl
theorem hj4_25 : pi_fetch mc_4 25 = some (.iconst 1, 1) := rfl
theorem hj4_26 : pi_fetch mc_4 26 = some (.ireturn, 1) := rfl
theorem hj5_0 : pi_fetch mc_5 0 = some (.iload_n 2, 1) := rfl
theorem hj5_1 : pi_fetch mc_5 1 = some (.iconst (-1), 1) := rfl
theorem hj5_2 : pi_fetch mc_5 2 = some (.if_icmp .eq 8, 3) := rfl
theorem hj5_5 : pi_fetch mc_5 5 = some (.iload_n 3, 1) := rfl
theorem hj5_6 : pi_fetch mc_5 6 = some (.iconst (-1), 1) := rfl
theorem hj5_7 : pi_fetch mc_5 7 = some (.if_icmp .ne 5, 3) := rfl
theorem hj5_10 : pi_fetch mc_5 10 = some (.iconst 0, 1) := rfl
theorem hj5_11 : pi_fetch mc_5 11 = some (.ireturn, 1) := rfl
theorem hj5_12 : pi_fetch mc_5 12 = some (.aload_n 0, 1) := rfl
theorem hj5_13 : pi_fetch mc_5 13 = some (.getfield 19, 3) := rfl
theorem hj5_16 : pi_fetch mc_5 16 = some (.aload_n 0, 1) := rfl
theorem hj5_17 : pi_fetch mc_5 17 = some (.getfield 29, 3) := rfl
theorem hj5_20 : pi_fetch mc_5 20 = some (.iload_n 1, 1) := rfl
theorem hj5_21 : pi_fetch mc_5 21 = some (.invokestatic 86, 3) := rfl
theorem hj5_24 : pi_fetch mc_5 24 = some (.aload_n 0, 1) := rfl
theorem hj5_25 : pi_fetch mc_5 25 = some (.getfield 23, 3) := rfl
theorem hj5_28 : pi_fetch mc_5 28 = some (.aload_n 0, 1) := rfl
theorem hj5_29 : pi_fetch mc_5 29 = some (.getfield 29, 3) := rfl
theorem hj5_32 : pi_fetch mc_5 32 = some (.iload_n 2, 1) := rfl
theorem hj5_33 : pi_fetch mc_5 33 = some (.invokestatic 86, 3) := rfl
theorem hj5_36 : pi_fetch mc_5 36 = some (.aload_n 0, 1) := rfl
theorem hj5_37 : pi_fetch mc_5 37 = some (.getfield 26, 3) := rfl
theorem hj5_40 : pi_fetch mc_5 40 = some (.aload_n 0, 1) := rfl
theorem hj5_41 : pi_fetch mc_5 41 = some (.getfield 29, 3) := rfl
theorem hj5_44 : pi_fetch mc_5 44 = some (.iload_n 3, 1) := rfl
theorem hj5_45 : pi_fetch mc_5 45 = some (.invokestatic 86, 3) := rfl
theorem hj5_48 : pi_fetch mc_5 48 = some (.aload_n 0, 1) := rfl
theorem hj5_49 : pi_fetch mc_5 49 = some (.dup, 1) := rfl
theorem hj5_50 : pi_fetch mc_5 50 = some (.getfield 29, 3) := rfl
theorem hj5_53 : pi_fetch mc_5 53 = some (.iconst 1, 1) := rfl
theorem hj5_54 : pi_fetch mc_5 54 = some (.iadd, 1) := rfl
theorem hj5_55 : pi_fetch mc_5 55 = some (.putfield 29, 3) := rfl
theorem hj5_58 : pi_fetch mc_5 58 = some (.iconst 1, 1) := rfl
theorem hj5_59 : pi_fetch mc_5 59 = some (.ireturn, 1) := rfl
/-! a LINE of a DIARY as a function: NT the NAMES, n how many LINES there are -/
abbrev dy_R : Type := (Int × Nat) ⊕ tq_T
def dy_m (tp : Nat → Nat) (B M n : Nat) (t : tq_T) : dy_R := if n < 40 then .inr (tq_nx tp B M t) else .inl (4, t.2.1)
def dy_nm (tp : Nat → Nat) (B M s : Nat) (NT : List nt_E) (t : tq_T) : dy_R := ls_b (ls_look s t NT) (fun _ => .inr (tq_nx tp B M t))
def dy_num (tp : Nat → Nat) (B M : Nat) (t : tq_T) : dy_R := ls_b (ls_numb 1 60 t) (fun _ => .inr (tq_nx tp B M t))
def dy_act (tp : Nat → Nat) (B M : Nat) (NT : List nt_E) (t : tq_T) : dy_R := if ls_k t = 9 then dy_nm tp B M 0 NT (tq_nx tp B M t) else if ls_k t = 10 then dy_nm tp B M 2 NT (tq_nx tp B M t) else if 11 ≤ ls_k t ∧ ls_k t ≤ 13 then .inr (tq_nx tp B M t) else .inl (1, t.2.1)
def dy_man (tp : Nat → Nat) (B M : Nat) (NT : List nt_E) (n : Nat) (t : tq_T) : dy_R := ls_b (ls_look 4 t NT) (fun _ => ls_b (dy_m tp B M n t) (dy_act tp B M NT))
def dy_line (tp : Nat → Nat) (B M : Nat) (NT : List nt_E) (n : Nat) (t : tq_T) : dy_R := if ls_nm t = true then dy_man tp B M NT n t else if ls_k t = 14 then ls_b (dy_m tp B M n t) (fun t1 => ls_b (dy_nm tp B M 3 NT t1) (dy_nm tp B M 0 NT)) else if ls_k t = 15 then ls_b (dy_m tp B M n t) (dy_nm tp B M 0 NT) else if ls_k t = 16 then ls_b (dy_m tp B M n t) (dy_num tp B M) else .inl (1, t.2.1)
/-- all LINES: the FAULT, if there is one -/
def dy_lines (tp : Nat → Nat) (B M : Nat) (NT : List nt_E) : Nat → Nat → tq_T → Option (Int × Nat)
  | 0, _, _ => none
  | f + 1, n, t => if t.1 = 0 then none else match dy_line tp B M NT n t with
    | .inl e => some e
    | .inr t1 => if ls_sc t1 = true then dy_lines tp B M NT f (n + 1) (tq_nx tp B M t1) else some (1, t1.2.1)
theorem dy_m40 {tp : Nat → Nat} {B M : Nat} {NT : List nt_E} {t t1 : tq_T} : dy_line tp B M NT 40 t ≠ .inr t1 := by
  have hm : dy_m tp B M 40 t = .inl (4, t.2.1) := if_neg (by decide)
  intro h
  unfold dy_line at h
  split at h
  · unfold dy_man at h
    cases hl : ls_look 4 t NT with
    | inl e => rw [hl, ls_bl] at h; cases h
    | inr a => rw [hl, ls_br, hm, ls_bl] at h; cases h
  · rw [hm] at h
    split at h
    · cases h
    · split at h
      · cases h
      · split at h <;> cases h
theorem dy_e0 {tp : Nat → Nat} {B M f n : Nat} {NT : List nt_E} {t : tq_T} (h : t.1 = 0) : dy_lines tp B M NT (f + 1) n t = none := by
  rw [dy_lines, if_pos h]
theorem dy_e1 {tp : Nat → Nat} {B M f n : Nat} {NT : List nt_E} {t : tq_T} {e : Int × Nat} (h : ¬ t.1 = 0) (h1 : dy_line tp B M NT n t = .inl e) : dy_lines tp B M NT (f + 1) n t = some e := by
  rw [dy_lines, if_neg h, h1]
theorem dy_e2 {tp : Nat → Nat} {B M f n : Nat} {NT : List nt_E} {t t1 : tq_T} (h : ¬ t.1 = 0) (h1 : dy_line tp B M NT n t = .inr t1) (h2 : ¬ ls_sc t1 = true) : dy_lines tp B M NT (f + 1) n t = some (1, t1.2.1) := by
  rw [dy_lines, if_neg h, h1]
  exact if_neg h2
theorem dy_e3 {tp : Nat → Nat} {B M f n : Nat} {NT : List nt_E} {t t1 : tq_T} (h : ¬ t.1 = 0) (h1 : dy_line tp B M NT n t = .inr t1) (h2 : ls_sc t1 = true) : dy_lines tp B M NT (f + 1) n t = dy_lines tp B M NT f (n + 1) (tq_nx tp B M t1) := by
  rw [dy_lines, if_neg h, h1]
  exact if_pos h2
def dc_N : af_M := [(1, 4, 10), (28, 5, 6), (29, 0, 40), (30, 0, 40), (31, 0, 40)]
def dc_M : af_M := [(1, 4, 12), (28, 5, 6), (29, 0, 40), (30, 0, 40), (31, 0, 40)]
/-- what a reader of a LINE does in the class -/
def dc_P (tp : Nat → Nat) (B M n : Nat) (F : dy_R) (w : pi_W) (r : Option Value) (w' : pi_W) : Prop := af_Conf aw_Sh w' ∧ af_Fr dc_M w w' ∧ ((r = some (.int 1) ∧ af_Fr dc_N w w' ∧ gv w' 28 5 = Int32.ofNat (n + 1) ∧ n < 40 ∧ ∃ t, F = .inr t ∧ CT tp B M w' t) ∨ (r = some (.int 0) ∧ ∃ k p, F = .inl (k, p) ∧ FC w' k p))
theorem sb_29 : ∀ k, k < 40 → af_seg sf_29 k = some (-2147483648, 2147483647) := by decide +kernel
theorem sb_30 : ∀ k, k < 40 → af_seg sf_30 k = some (-2147483648, 2147483647) := by decide +kernel
theorem sb_31 : ∀ k, k < 40 → af_seg sf_31 k = some (-2147483648, 2147483647) := by decide +kernel
theorem dc_tf {d B M n : Nat} {tp : Nat → Nat} {w : pi_W} {t : tq_T} (h : CT tp B M w t) (h2 : 2 ≤ t.1) (hl : (gv w 28 5).toInt = (n : Int)) : hq_F (d + 3) sm4 (fun r w' => (r = some (.int 1) ∧ n < 40 ∧ CT tp B M w' (tq_nx tp B M t) ∧ af_Fr [(1, 4, 10)] w w') ∨ (r = some (.int 0) ∧ ¬ n < 40 ∧ CT tp B M w' t ∧ af_Fr [(1, 10, 12)] w w' ∧ FC w' 4 t.2.1)) (0, lv_args 0 [.ref 28], [], w) := by
  have g0 : pi_get (lv_args 0 [.ref 28]) 0 = some (.ref 28) := rfl
  have kc0 : (((Int8.ofInt 40).toInt32)).toInt = 40 := by decide
  have kc1 : ((0 : Int32)).toInt = 0 := by decide
  have kc2 : ((1 : Int32)).toInt = 1 := by decide
  have kc3 : ((Int32.ofInt 1)).toInt = 1 := by decide
  have kc4 : ((Int32.ofInt 4)).toInt = 4 := by decide
  have kz := sy_z0
  refine hq_F.st (s' := (1, _, _, _)) hj4_0 rfl rfl rfl (hs_al g0) ?_
  refine hq_F.st (s' := (4, _, _, _)) hj4_1 rfl rfl rfl (hq_gf h.1 sh_28 sk_0_29 (sy_v h.1 (by decide) rfl)) ?_
  refine hq_F.st (s' := (6, _, _, _)) hj4_4 rfl rfl rfl rfl ?_
  by_cases b6 : ((gv w 28 5)).toInt < 40
  · skip
    refine hq_F.st (s' := (18, _, _, _)) hj4_6 rfl rfl rfl (hs_ic (ci_lt (by omega)) rfl) ?_
    refine hq_F.st (s' := (19, _, _, _)) hj4_18 rfl rfl rfl (hs_al g0) ?_
    refine hq_F.st (s' := (22, _, _, _)) hj4_19 rfl rfl rfl (hq_gf h.1 sh_28 sk_0_9 (hq_ref h.1 sh_28 (b := 1) rfl)) ?_
    refine hq_F.call hj4_22 rfl rfl si_0_83 (by decide) (by decide) sz_98 (sy_argsV h.1 sh_1 rfl rfl rfl (Nat.le_of_ble_eq_true rfl) rfl (Nat.le_of_ble_eq_true rfl) rfl (by decide)) (ct_adv (d := d) h h2) (fun _ _ q => by rw [q.2.1.1.1, h.1.1]) ?_
    rintro r22 w8 ⟨rfl, h8, F8⟩
    try dsimp only
    refine hq_F.st (s' := (26, _, _, _)) hj4_25 rfl rfl rfl rfl ?_
    refine hq_F.en hj4_26 rfl rfl ?_
    exact Or.inl ⟨rfl, by omega, h8, F8⟩
  · skip
    refine hq_F.st (s' := (9, _, _, _)) hj4_6 rfl rfl rfl (hs_icn (t := 18) (ci_ltn (by omega)) rfl) ?_
    refine hq_F.st (s' := (10, _, _, _)) hj4_9 rfl rfl rfl (hs_al g0) ?_
    refine hq_F.st (s' := (13, _, _, _)) hj4_10 rfl rfl rfl (hq_gf h.1 sh_28 sk_0_9 (hq_ref h.1 sh_28 (b := 1) rfl)) ?_
    refine hq_F.st (s' := (14, _, _, _)) hj4_13 rfl rfl rfl rfl ?_
    refine hq_F.call hj4_14 rfl rfl si_0_59 (by decide) (by decide) sz_103 (sy_argsV h.1 sh_1 rfl rfl rfl (Nat.le_of_ble_eq_true rfl) rfl (Nat.le_of_ble_eq_true rfl) rfl (by decide)) (ct_ref h ((Int32.ofInt 4))) (fun _ _ q => by rw [q.2.1.1.1, h.1.1]) ?_
    rintro r14 w9 ⟨rfl, k1, k2, k3, k4⟩
    try dsimp only
    refine hq_F.en hj4_17 rfl rfl ?_
    exact Or.inr ⟨rfl, by omega, k1, k2, by rw [k3]; decide, k4⟩
theorem dc_add {d n : Nat} {w : pi_W} {a b c : Int32} (hC : af_Conf aw_Sh w) (hl : gv w 28 5 = Int32.ofNat n) (hn : n < 40) (hb : ¬ b.toInt = -1) (hc : ¬ c.toInt = -1) : hq_F (d + 1) sm5 (fun r w' => r = some (.int 1) ∧ af_Conf aw_Sh w' ∧ af_Fr [(28, 5, 6), (29, 0, 40), (30, 0, 40), (31, 0, 40)] w w' ∧ gv w' 28 5 = Int32.ofNat (n + 1)) (0, lv_args 0 [.ref 28, .int a, .int b, .int c], [], w) := by
  have g0 : pi_get (lv_args 0 [.ref 28, .int a, .int b, .int c]) 0 = some (.ref 28) := rfl
  have g1 : pi_get (lv_args 0 [.ref 28, .int a, .int b, .int c]) 1 = some (.int a) := rfl
  have g2 : pi_get (lv_args 0 [.ref 28, .int a, .int b, .int c]) 2 = some (.int b) := rfl
  have g3 : pi_get (lv_args 0 [.ref 28, .int a, .int b, .int c]) 3 = some (.int c) := rfl
  have kc0 : ((0 : Int32)).toInt = 0 := by decide
  have kc1 : ((1 : Int32)).toInt = 1 := by decide
  have kc2 : ((Int32.ofInt (-1))).toInt = (-1) := by decide
  have kc3 : ((Int32.ofInt 1)).toInt = 1 := by decide
  have kz := sy_z0
  refine hq_F.st (s' := (1, _, _, _)) hj5_0 rfl rfl rfl (hs_iln g2) ?_
  refine hq_F.st (s' := (2, _, _, _)) hj5_1 rfl rfl rfl rfl ?_
  refine hq_F.st (s' := (5, _, _, _)) hj5_2 rfl rfl rfl (hs_icn (t := 10) (ci_eqn (by omega)) rfl) ?_
  refine hq_F.st (s' := (6, _, _, _)) hj5_5 rfl rfl rfl (hs_iln g3) ?_
  refine hq_F.st (s' := (7, _, _, _)) hj5_6 rfl rfl rfl rfl ?_
  refine hq_F.st (s' := (12, _, _, _)) hj5_7 rfl rfl rfl (hs_ic (ci_ne (by omega)) rfl) ?_
  refine hq_F.st (s' := (13, _, _, _)) hj5_12 rfl rfl rfl (hs_al g0) ?_
  refine hq_F.st (s' := (16, _, _, _)) hj5_13 rfl rfl rfl (hq_gf hC sh_28 sk_0_19 (hq_ref hC sh_28 (b := 29) rfl)) ?_
  refine hq_F.st (s' := (17, _, _, _)) hj5_16 rfl rfl rfl (hs_al g0) ?_
  refine hq_F.st (s' := (20, _, _, _)) hj5_17 rfl rfl rfl (hq_gf hC sh_28 sk_0_29 (sy_v hC (by decide) rfl)) ?_
  rw [show gv w 28 5 = Int32.ofNat n from by exact hl]
  refine hq_F.st (s' := (21, _, _, _)) hj5_20 rfl rfl rfl (hs_iln g1) ?_
  refine hq_F.call hj5_21 rfl rfl si_0_86 (by decide) (by decide) sz_160 (sy_argsS rfl rfl rfl (Nat.le_of_ble_eq_true rfl) (by decide) rfl (Nat.le_of_ble_eq_true rfl) (by decide)) (ca_put hC sh_29 (j := n) hn (by omega) (sy_full (sb_29 n hn))) (fun _ _ q => by rw [q.2.1.1, hC.1]) ?_
  rintro r21 u1 ⟨rfl, cu1, qu1⟩
  try dsimp only
  have Gu1 : af_Fr [(29, 0, 40)] w u1 := hq_fr1 qu1 ⟨Nat.zero_le _, hn⟩
  refine hq_F.st (s' := (25, _, _, _)) hj5_24 rfl rfl rfl (hs_al g0) ?_
  refine hq_F.st (s' := (28, _, _, _)) hj5_25 rfl rfl rfl (hq_gf cu1 sh_28 sk_0_23 (hq_ref cu1 sh_28 (b := 30) rfl)) ?_
  refine hq_F.st (s' := (29, _, _, _)) hj5_28 rfl rfl rfl (hs_al g0) ?_
  refine hq_F.st (s' := (32, _, _, _)) hj5_29 rfl rfl rfl (hq_gf cu1 sh_28 sk_0_29 (sy_v cu1 (by decide) rfl)) ?_
  have q29 : (gv u1 28 5).toInt = (gv w 28 5).toInt := by rw [gv_eq (Gu1 28 5 (by decide))]
  rw [show gv u1 28 5 = Int32.ofNat n from by rw [gv_eq (hq_cell Gu1 (by decide))]; exact hl]
  refine hq_F.st (s' := (33, _, _, _)) hj5_32 rfl rfl rfl (hs_iln g2) ?_
  refine hq_F.call hj5_33 rfl rfl si_0_86 (by decide) (by decide) sz_160 (sy_argsS rfl rfl rfl (Nat.le_of_ble_eq_true rfl) (by decide) rfl (Nat.le_of_ble_eq_true rfl) (by decide)) (ca_put cu1 sh_30 (j := n) hn (by omega) (sy_full (sb_30 n hn))) (fun _ _ q => by rw [q.2.1.1, cu1.1]) ?_
  rintro r33 u2 ⟨rfl, cu2, qu2⟩
  try dsimp only
  have Gu2 : af_Fr [(30, 0, 40)] u1 u2 := hq_fr1 qu2 ⟨Nat.zero_le _, hn⟩
  refine hq_F.st (s' := (37, _, _, _)) hj5_36 rfl rfl rfl (hs_al g0) ?_
  refine hq_F.st (s' := (40, _, _, _)) hj5_37 rfl rfl rfl (hq_gf cu2 sh_28 sk_0_26 (hq_ref cu2 sh_28 (b := 31) rfl)) ?_
  refine hq_F.st (s' := (41, _, _, _)) hj5_40 rfl rfl rfl (hs_al g0) ?_
  refine hq_F.st (s' := (44, _, _, _)) hj5_41 rfl rfl rfl (hq_gf cu2 sh_28 sk_0_29 (sy_v cu2 (by decide) rfl)) ?_
  have q41 : (gv u2 28 5).toInt = (gv w 28 5).toInt := by rw [gv_eq (Gu2 28 5 (by decide)), gv_eq (Gu1 28 5 (by decide))]
  rw [show gv u2 28 5 = Int32.ofNat n from by rw [gv_eq (hq_cell Gu2 (by decide)), gv_eq (hq_cell Gu1 (by decide))]; exact hl]
  refine hq_F.st (s' := (45, _, _, _)) hj5_44 rfl rfl rfl (hs_iln g3) ?_
  refine hq_F.call hj5_45 rfl rfl si_0_86 (by decide) (by decide) sz_160 (sy_argsS rfl rfl rfl (Nat.le_of_ble_eq_true rfl) (by decide) rfl (Nat.le_of_ble_eq_true rfl) (by decide)) (ca_put cu2 sh_31 (j := n) hn (by omega) (sy_full (sb_31 n hn))) (fun _ _ q => by rw [q.2.1.1, cu2.1]) ?_
  rintro r45 u3 ⟨rfl, cu3, qu3⟩
  try dsimp only
  have Gu3 : af_Fr [(31, 0, 40)] u2 u3 := hq_fr1 qu3 ⟨Nat.zero_le _, hn⟩
  refine hq_F.st (s' := (49, _, _, _)) hj5_48 rfl rfl rfl (hs_al g0) ?_
  refine hq_F.st (s' := (50, _, _, _)) hj5_49 rfl rfl rfl rfl ?_
  refine hq_F.st (s' := (53, _, _, _)) hj5_50 rfl rfl rfl (hq_gf cu3 sh_28 sk_0_29 (sy_v cu3 (by decide) rfl)) ?_
  have q50 : (gv u3 28 5).toInt = (gv w 28 5).toInt := by rw [gv_eq (Gu3 28 5 (by decide)), gv_eq (Gu2 28 5 (by decide)), gv_eq (Gu1 28 5 (by decide))]
  rw [show gv u3 28 5 = Int32.ofNat n from by rw [gv_eq (hq_cell Gu3 (by decide)), gv_eq (hq_cell Gu2 (by decide)), gv_eq (hq_cell Gu1 (by decide))]; exact hl]
  refine hq_F.st (s' := (54, _, _, _)) hj5_53 rfl rfl rfl rfl ?_
  refine hq_F.st (s' := (55, _, _, _)) hj5_54 rfl rfl rfl rfl ?_
  rw [hn_s]
  refine sy_pf hj5_55 cu3 sh_28 sk_0_29 (lo := -2147483648) (hi := 2147483647) rfl (af_i32 _) rfl rfl rfl (fun w21 hC21 hw21 => ?_)
  refine hq_F.st (s' := (59, _, _, _)) hj5_58 rfl rfl rfl rfl ?_
  refine hq_F.en hj5_59 rfl rfl ?_
  exact ⟨rfl, hC21, (((Gu1).cov (by decide)).tr (((Gu2).cov (by decide)).tr (((Gu3).cov (by decide)).tr ((wpF hw21).cov (by decide))))), by rw [wpv hw21, if_pos ⟨rfl, rfl⟩]⟩
theorem dc_add0 {d : Nat} {w : pi_W} {a b c : Int32} (hC : af_Conf aw_Sh w) (hb : b.toInt = -1 ∨ c.toInt = -1) : hq_F d sm5 (fun r w' => w' = w ∧ r = some (.int 0)) (0, lv_args 0 [.ref 28, .int a, .int b, .int c], [], w) := by
  have g0 : pi_get (lv_args 0 [.ref 28, .int a, .int b, .int c]) 0 = some (.ref 28) := rfl
  have g1 : pi_get (lv_args 0 [.ref 28, .int a, .int b, .int c]) 1 = some (.int a) := rfl
  have g2 : pi_get (lv_args 0 [.ref 28, .int a, .int b, .int c]) 2 = some (.int b) := rfl
  have g3 : pi_get (lv_args 0 [.ref 28, .int a, .int b, .int c]) 3 = some (.int c) := rfl
  have kc0 : ((0 : Int32)).toInt = 0 := by decide
  have kc1 : ((1 : Int32)).toInt = 1 := by decide
  have kc2 : ((Int32.ofInt (-1))).toInt = (-1) := by decide
  have kc3 : ((Int32.ofInt 0)).toInt = 0 := by decide
  have kz := sy_z0
  refine hq_F.st (s' := (1, _, _, _)) hj5_0 rfl rfl rfl (hs_iln g2) ?_
  refine hq_F.st (s' := (2, _, _, _)) hj5_1 rfl rfl rfl rfl ?_
  by_cases b2 : (b).toInt = (-1)
  · skip
    refine hq_F.st (s' := (10, _, _, _)) hj5_2 rfl rfl rfl (hs_ic (ci_eq (by omega)) rfl) ?_
    refine hq_F.st (s' := (11, _, _, _)) hj5_10 rfl rfl rfl rfl ?_
    refine hq_F.en hj5_11 rfl rfl ?_
    exact ⟨rfl, rfl⟩
  · skip
    refine hq_F.st (s' := (5, _, _, _)) hj5_2 rfl rfl rfl (hs_icn (t := 10) (ci_eqn (by omega)) rfl) ?_
    refine hq_F.st (s' := (6, _, _, _)) hj5_5 rfl rfl rfl (hs_iln g3) ?_
    refine hq_F.st (s' := (7, _, _, _)) hj5_6 rfl rfl rfl rfl ?_
    refine hq_F.st (s' := (10, _, _, _)) hj5_7 rfl rfl rfl (hs_icn (t := 12) (ci_nen (by omega)) rfl) ?_
    refine hq_F.st (s' := (11, _, _, _)) hj5_10 rfl rfl rfl rfl ?_
    refine hq_F.en hj5_11 rfl rfl ?_
    exact ⟨rfl, rfl⟩
theorem dc_man {d B M n nr : Nat} {tp : Nat → Nat} {A : ld_A} {NT : List nt_E} {w : pi_W} {t : tq_T} (h : CT tp B M w t) (hL : CL w 5 6 A nr NT) (ho : nt_ok NT) (hcs : nt_cs NT) (hl : gv w 28 5 = Int32.ofNat n) (hn : n ≤ 40) : hq_F (d + 4) sm3 (dc_P tp B M n (dy_man tp B M NT n t) w) (0, lv_args 0 [.ref 28], [], w) := by
  obtain ⟨m0, m2, m3, m4⟩ := hcs
  have g0 : pi_get (lv_args 0 [.ref 28]) 0 = some (.ref 28) := rfl
  have kc0 : ((-1 : Int32)).toInt = (-1) := by decide
  have kc1 : ((0 : Int32)).toInt = 0 := by decide
  have kc2 : ((1 : Int32)).toInt = 1 := by decide
  have kc3 : ((Int32.ofInt (-1))).toInt = (-1) := by decide
  have kc4 : ((Int32.ofInt 0)).toInt = 0 := by decide
  have kc5 : ((Int32.ofInt 1)).toInt = 1 := by decide
  have kc6 : ((Int32.ofInt 2)).toInt = 2 := by decide
  have kc7 : ((Int32.ofInt 4)).toInt = 4 := by decide
  have kz := sy_z0
  refine hq_F.st (s' := (1, _, _, _)) hj3_0 rfl rfl rfl (hs_al g0) ?_
  refine hq_F.st (s' := (4, _, _, _)) hj3_1 rfl rfl rfl (hq_gf h.1 sh_28 sk_0_9 (hq_ref h.1 sh_28 (b := 1) rfl)) ?_
  refine hq_F.st (s' := (5, _, _, _)) hj3_4 rfl rfl rfl (hs_al g0) ?_
  refine hq_F.st (s' := (8, _, _, _)) hj3_5 rfl rfl rfl (hq_gf h.1 sh_28 sk_0_15 (hq_ref h.1 sh_28 (b := 4) rfl)) ?_
  refine hq_F.st (s' := (9, _, _, _)) hj3_8 rfl rfl rfl rfl ?_
  refine hq_F.call hj3_9 rfl rfl si_0_80 (by decide) (by decide) sz_108 (sy_argsV h.1 sh_1 rfl rfl rfl (Nat.le_of_ble_eq_true rfl) rfl (Nat.le_of_ble_eq_true rfl) rfl (by decide)) (cn_nh_l (d := d + 1) (s := 4) h hL.1 ho (by decide)) (fun r w' q => by rcases q with ⟨q, _⟩ | ⟨_, q, _⟩; rw [q]; rw [q.1.1, h.1.1]) ?_
  rintro r9 w2 q
  try dsimp only
  rcases q with ⟨rfl, v2, rfl, n2, e2, f2⟩ | ⟨rfl, h2, F2, q⟩
  · obtain ⟨m, hm, rfl, lm⟩ := ls_look_in ho (by omega) n2 e2 f2
    have tm : (Int32.ofNat m).toInt = (m : Int) := hn_t (by omega)
    refine hq_F.st (s' := (13, _, _, _)) hj3_12 rfl rfl rfl rfl ?_
    refine hq_F.st (s' := (14, _, _, _)) hj3_13 rfl rfl rfl (hs_iln (pi_get_set _ _ _)) ?_
    refine hq_F.st (s' := (15, _, _, _)) hj3_14 rfl rfl rfl rfl ?_
    refine hq_F.st (s' := (18, _, _, _)) hj3_15 rfl rfl rfl (hs_icn (t := 25) (ci_eqn (by omega)) rfl) ?_
    refine hq_F.st (s' := (19, _, _, _)) hj3_18 rfl rfl rfl (hs_al (hg_nr g0 (by decide))) ?_
    refine hq_F.call hj3_19 rfl rfl si_0_63 (by decide) (by decide) sz_4 (sy_argsV h.1 sh_28 rfl rfl rfl (Nat.le_of_ble_eq_true rfl) rfl (Nat.le_of_ble_eq_true rfl) rfl (by decide)) (dc_tf (d := d) (n := n) h (by have := n2.1; omega) (by rw [hl]; exact hn_t (by omega))) (fun r w' q => by rcases q with ⟨_, _, q, _⟩ | ⟨_, _, q, _⟩; rw [q.1.1, h.1.1]; rw [q.1.1, h.1.1]) ?_
    rintro r19 w3 q
    try dsimp only
    rcases q with ⟨rfl, l3, h3, F3⟩ | ⟨rfl, l3, h3, F3, q⟩
    · have eM : dy_m tp B M n t = .inr (tq_nx tp B M t) := if_pos l3
      have hL3 := hL.fr F3 (by decide) (by decide)
      have hl3 := (gv_eq (hq_cell F3 (c := 28) (i := 5) (by decide))).trans hl
      refine hq_F.st (s' := (27, _, _, _)) hj3_22 rfl rfl rfl (hs_if (ci_ne (by omega)) rfl) ?_
      refine hq_F.st (s' := (28, _, _, _)) hj3_27 rfl rfl rfl (hs_al (hg_nr g0 (by decide))) ?_
      refine hq_F.st (s' := (31, _, _, _)) hj3_28 rfl rfl rfl (hq_gf h3.1 sh_28 sk_0_9 (hq_ref h3.1 sh_28 (b := 1) rfl)) ?_
      refine hq_F.st (s' := (34, _, _, _)) hj3_31 rfl rfl rfl (hq_gf h3.1 sh_1 sk_0_56 (sy_v h3.1 (by decide) rfl)) ?_
      have h9 : (gv w3 1 9).toInt = ls_k (tq_nx tp B M t) := h3.2.2.2.2.1.2.2.2.2.1
      refine hq_F.st (s' := (35, _, _, _)) hj3_34 rfl rfl rfl rfl ?_
      refine hq_F.st (s' := (36, _, _, _)) hj3_35 rfl rfl rfl (hs_iln (pi_get_set _ _ _)) ?_
      by_cases hk : ls_k (tq_nx tp B M t) = 9
      · have h2t : 2 ≤ (tq_nx tp B M t).1 := by rw [ls_k2 (t := (tq_nx tp B M t)) (by omega)]; omega
        refine hq_F.st (s' := (72, _, _, _)) hj3_36 rfl rfl rfl (ts_in (n := 0) (by omega) (by omega) rfl rfl) ?_
        refine hq_F.st (s' := (73, _, _, _)) hj3_72 rfl rfl rfl (hs_al (hg_nr (hg_nr g0 (by decide)) (by decide))) ?_
        refine hq_F.st (s' := (76, _, _, _)) hj3_73 rfl rfl rfl (hq_gf h3.1 sh_28 sk_0_9 (hq_ref h3.1 sh_28 (b := 1) rfl)) ?_
        refine hq_F.call hj3_76 rfl rfl si_0_83 (by decide) (by decide) sz_98 (sy_argsV h3.1 sh_1 rfl rfl rfl (Nat.le_of_ble_eq_true rfl) rfl (Nat.le_of_ble_eq_true rfl) rfl (by decide)) (ct_adv (d := d + 1) h3 h2t) (fun _ _ q => by rw [q.2.1.1.1, h3.1.1]) ?_
        rintro r76 w4 ⟨rfl, h4, F4⟩
        try dsimp only
        have hL4 := hL3.fr F4 (by decide) (by decide)
        have hl4 := (gv_eq (hq_cell F4 (c := 28) (i := 5) (by decide))).trans hl3
        refine hq_F.st (s' := (80, _, _, _)) hj3_79 rfl rfl rfl (hs_al (hg_nr (hg_nr g0 (by decide)) (by decide))) ?_
        refine hq_F.st (s' := (81, _, _, _)) hj3_80 rfl rfl rfl (hs_iln (pi_get_set _ _ _)) ?_
        refine hq_F.st (s' := (82, _, _, _)) hj3_81 rfl rfl rfl (hs_iln (hg_ne (pi_get_set _ _ _) (by decide))) ?_
        refine hq_F.st (s' := (83, _, _, _)) hj3_82 rfl rfl rfl (hs_al (hg_nr (hg_nr g0 (by decide)) (by decide))) ?_
        refine hq_F.st (s' := (86, _, _, _)) hj3_83 rfl rfl rfl (hq_gf h4.1 sh_28 sk_0_9 (hq_ref h4.1 sh_28 (b := 1) rfl)) ?_
        refine hq_F.st (s' := (87, _, _, _)) hj3_86 rfl rfl rfl (hs_al (hg_nr (hg_nr g0 (by decide)) (by decide))) ?_
        refine hq_F.st (s' := (90, _, _, _)) hj3_87 rfl rfl rfl (hq_gf h4.1 sh_28 sk_0_15 (hq_ref h4.1 sh_28 (b := 4) rfl)) ?_
        refine hq_F.st (s' := (91, _, _, _)) hj3_90 rfl rfl rfl rfl ?_
        refine hq_F.call hj3_91 rfl rfl si_0_76 (by decide) (by decide) sz_109 (sy_argsV h4.1 sh_1 rfl rfl rfl (Nat.le_of_ble_eq_true rfl) rfl (Nat.le_of_ble_eq_true rfl) rfl (by decide)) (cn_tk_l (d := d) (s := 0) h4 hL4.1 ho (by decide)) (fun r w' q => by rcases q with ⟨_, _, _, _, _, q, _⟩ | ⟨_, q, _⟩; rw [q.1.1, h4.1.1]; rw [q.1.1, h4.1.1]) ?_
        rintro r91 w5 q
        try dsimp only
        rcases q with ⟨v5, rfl, n5, e5, f5, h5, F5⟩ | ⟨rfl, h5, F5, q⟩
        · obtain ⟨b, hb, rfl, lb⟩ := ls_look_in ho (by omega) n5 e5 f5
          have tb : (Int32.ofNat b).toInt = (b : Int) := hn_t (by omega)
          have hl5 := (gv_eq (hq_cell F5 (c := 28) (i := 5) (by decide))).trans hl4
          have hL5 := hL4.fr F5 (by decide) (by decide)
          refine hq_F.call hj3_94 rfl rfl si_0_70 (by decide) (by decide) sz_5 (sy_argsV h5.1 sh_28 rfl rfl rfl (Nat.le_of_ble_eq_true rfl) rfl (Nat.le_of_ble_eq_true rfl) rfl (by decide)) (dc_add (d := d + 2) (n := n) h5.1 hl5 l3 (by omega) (by omega)) (fun _ _ q => by rw [q.2.1.1, h5.1.1]) ?_
          rintro r94 w8 ⟨rfl, hC8, F8, e8⟩
          try dsimp only
          refine hq_F.en hj3_97 rfl rfl ?_
          exact ⟨hC8, ((F3.cov (by decide)).tr ((F4.cov (by decide)).tr ((F5.cov (by decide)).tr (F8.cov (by decide))))), Or.inl ⟨rfl, ((F3.cov (by decide)).tr ((F4.cov (by decide)).tr ((F5.cov (by decide)).tr (F8.cov (by decide))))), e8, l3, (tq_nx tp B M (tq_nx tp B M (tq_nx tp B M t))), by unfold dy_man; rw [lm, ls_br]; show ls_b (dy_m tp B M n t) _ = _; rw [eM, ls_br]; unfold dy_act; rw [if_pos hk]; unfold dy_nm; rw [lb]; rfl, h5.fr hC8 F8 rfl⟩⟩
        · skip
          refine hq_F.call hj3_94 rfl rfl si_0_70 (by decide) (by decide) sz_5 (sy_argsV h5.1 sh_28 rfl rfl rfl (Nat.le_of_ble_eq_true rfl) rfl (Nat.le_of_ble_eq_true rfl) rfl (by decide)) (dc_add0 (d := d + 2 + 1) h5.1 (by omega)) (fun _ _ q => by rw [q.1]) ?_
          rintro r94 w5 ⟨rfl, rfl⟩
          try dsimp only
          refine hq_F.en hj3_97 rfl rfl ?_
          rcases q with ⟨q1, q2⟩ | ⟨q1, q2, q3⟩
          · exact ⟨h5.1, ((F3.cov (by decide)).tr ((F4.cov (by decide)).tr (F5.cov (by decide)))), Or.inr ⟨rfl, 1, (tq_nx tp B M (tq_nx tp B M t)).2.1, by unfold dy_man; rw [lm, ls_br]; show ls_b (dy_m tp B M n t) _ = _; rw [eM, ls_br]; unfold dy_act; rw [if_pos hk]; unfold dy_nm; rw [ls_look_1 q1]; rfl, q2⟩⟩
          · exact ⟨h5.1, ((F3.cov (by decide)).tr ((F4.cov (by decide)).tr (F5.cov (by decide)))), Or.inr ⟨rfl, 3, (tq_nx tp B M (tq_nx tp B M t)).2.1, by unfold dy_man; rw [lm, ls_br]; show ls_b (dy_m tp B M n t) _ = _; rw [eM, ls_br]; unfold dy_act; rw [if_pos hk]; unfold dy_nm; rw [ls_look_3 q1 q2]; rfl, q3⟩⟩
      have hk9 := hk
      by_cases hk : ls_k (tq_nx tp B M t) = 10
      · have h2t : 2 ≤ (tq_nx tp B M t).1 := by rw [ls_k2 (t := (tq_nx tp B M t)) (by omega)]; omega
        refine hq_F.st (s' := (98, _, _, _)) hj3_36 rfl rfl rfl (ts_in (n := 1) (by omega) (by omega) rfl rfl) ?_
        refine hq_F.st (s' := (99, _, _, _)) hj3_98 rfl rfl rfl (hs_al (hg_nr (hg_nr g0 (by decide)) (by decide))) ?_
        refine hq_F.st (s' := (102, _, _, _)) hj3_99 rfl rfl rfl (hq_gf h3.1 sh_28 sk_0_9 (hq_ref h3.1 sh_28 (b := 1) rfl)) ?_
        refine hq_F.call hj3_102 rfl rfl si_0_83 (by decide) (by decide) sz_98 (sy_argsV h3.1 sh_1 rfl rfl rfl (Nat.le_of_ble_eq_true rfl) rfl (Nat.le_of_ble_eq_true rfl) rfl (by decide)) (ct_adv (d := d + 1) h3 h2t) (fun _ _ q => by rw [q.2.1.1.1, h3.1.1]) ?_
        rintro r102 w4 ⟨rfl, h4, F4⟩
        try dsimp only
        have hL4 := hL3.fr F4 (by decide) (by decide)
        have hl4 := (gv_eq (hq_cell F4 (c := 28) (i := 5) (by decide))).trans hl3
        refine hq_F.st (s' := (106, _, _, _)) hj3_105 rfl rfl rfl (hs_al (hg_nr (hg_nr g0 (by decide)) (by decide))) ?_
        refine hq_F.st (s' := (107, _, _, _)) hj3_106 rfl rfl rfl (hs_iln (pi_get_set _ _ _)) ?_
        refine hq_F.st (s' := (108, _, _, _)) hj3_107 rfl rfl rfl (hs_iln (hg_ne (pi_get_set _ _ _) (by decide))) ?_
        refine hq_F.st (s' := (109, _, _, _)) hj3_108 rfl rfl rfl (hs_al (hg_nr (hg_nr g0 (by decide)) (by decide))) ?_
        refine hq_F.st (s' := (112, _, _, _)) hj3_109 rfl rfl rfl (hq_gf h4.1 sh_28 sk_0_9 (hq_ref h4.1 sh_28 (b := 1) rfl)) ?_
        refine hq_F.st (s' := (113, _, _, _)) hj3_112 rfl rfl rfl (hs_al (hg_nr (hg_nr g0 (by decide)) (by decide))) ?_
        refine hq_F.st (s' := (116, _, _, _)) hj3_113 rfl rfl rfl (hq_gf h4.1 sh_28 sk_0_15 (hq_ref h4.1 sh_28 (b := 4) rfl)) ?_
        refine hq_F.st (s' := (117, _, _, _)) hj3_116 rfl rfl rfl rfl ?_
        refine hq_F.call hj3_117 rfl rfl si_0_76 (by decide) (by decide) sz_109 (sy_argsV h4.1 sh_1 rfl rfl rfl (Nat.le_of_ble_eq_true rfl) rfl (Nat.le_of_ble_eq_true rfl) rfl (by decide)) (cn_tk_l (d := d) (s := 2) h4 hL4.1 ho (by decide)) (fun r w' q => by rcases q with ⟨_, _, _, _, _, q, _⟩ | ⟨_, q, _⟩; rw [q.1.1, h4.1.1]; rw [q.1.1, h4.1.1]) ?_
        rintro r117 w5 q
        try dsimp only
        rcases q with ⟨v5, rfl, n5, e5, f5, h5, F5⟩ | ⟨rfl, h5, F5, q⟩
        · obtain ⟨b, hb, rfl, lb⟩ := ls_look_in ho (by omega) n5 e5 f5
          have tb : (Int32.ofNat b).toInt = (b : Int) := hn_t (by omega)
          have hl5 := (gv_eq (hq_cell F5 (c := 28) (i := 5) (by decide))).trans hl4
          have hL5 := hL4.fr F5 (by decide) (by decide)
          refine hq_F.call hj3_120 rfl rfl si_0_70 (by decide) (by decide) sz_5 (sy_argsV h5.1 sh_28 rfl rfl rfl (Nat.le_of_ble_eq_true rfl) rfl (Nat.le_of_ble_eq_true rfl) rfl (by decide)) (dc_add (d := d + 2) (n := n) h5.1 hl5 l3 (by omega) (by omega)) (fun _ _ q => by rw [q.2.1.1, h5.1.1]) ?_
          rintro r120 w8 ⟨rfl, hC8, F8, e8⟩
          try dsimp only
          refine hq_F.en hj3_123 rfl rfl ?_
          exact ⟨hC8, ((F3.cov (by decide)).tr ((F4.cov (by decide)).tr ((F5.cov (by decide)).tr (F8.cov (by decide))))), Or.inl ⟨rfl, ((F3.cov (by decide)).tr ((F4.cov (by decide)).tr ((F5.cov (by decide)).tr (F8.cov (by decide))))), e8, l3, (tq_nx tp B M (tq_nx tp B M (tq_nx tp B M t))), by unfold dy_man; rw [lm, ls_br]; show ls_b (dy_m tp B M n t) _ = _; rw [eM, ls_br]; unfold dy_act; rw [if_neg (by omega), if_pos hk]; unfold dy_nm; rw [lb]; rfl, h5.fr hC8 F8 rfl⟩⟩
        · skip
          refine hq_F.call hj3_120 rfl rfl si_0_70 (by decide) (by decide) sz_5 (sy_argsV h5.1 sh_28 rfl rfl rfl (Nat.le_of_ble_eq_true rfl) rfl (Nat.le_of_ble_eq_true rfl) rfl (by decide)) (dc_add0 (d := d + 2 + 1) h5.1 (by omega)) (fun _ _ q => by rw [q.1]) ?_
          rintro r120 w5 ⟨rfl, rfl⟩
          try dsimp only
          refine hq_F.en hj3_123 rfl rfl ?_
          rcases q with ⟨q1, q2⟩ | ⟨q1, q2, q3⟩
          · exact ⟨h5.1, ((F3.cov (by decide)).tr ((F4.cov (by decide)).tr (F5.cov (by decide)))), Or.inr ⟨rfl, 1, (tq_nx tp B M (tq_nx tp B M t)).2.1, by unfold dy_man; rw [lm, ls_br]; show ls_b (dy_m tp B M n t) _ = _; rw [eM, ls_br]; unfold dy_act; rw [if_neg (by omega), if_pos hk]; unfold dy_nm; rw [ls_look_1 q1]; rfl, q2⟩⟩
          · exact ⟨h5.1, ((F3.cov (by decide)).tr ((F4.cov (by decide)).tr (F5.cov (by decide)))), Or.inr ⟨rfl, 3, (tq_nx tp B M (tq_nx tp B M t)).2.1, by unfold dy_man; rw [lm, ls_br]; show ls_b (dy_m tp B M n t) _ = _; rw [eM, ls_br]; unfold dy_act; rw [if_neg (by omega), if_pos hk]; unfold dy_nm; rw [ls_look_3 q1 q2]; rfl, q3⟩⟩
      by_cases hk11 : ls_k (tq_nx tp B M t) = 11
      · have h2t : 2 ≤ (tq_nx tp B M t).1 := by rw [ls_k2 (t := (tq_nx tp B M t)) (by omega)]; omega
        refine hq_F.st (s' := (124, _, _, _)) hj3_36 rfl rfl rfl (ts_in (n := 2) (by omega) (by omega) rfl rfl) ?_
        refine hq_F.st (s' := (125, _, _, _)) hj3_124 rfl rfl rfl (hs_al (hg_nr (hg_nr g0 (by decide)) (by decide))) ?_
        refine hq_F.st (s' := (128, _, _, _)) hj3_125 rfl rfl rfl (hq_gf h3.1 sh_28 sk_0_9 (hq_ref h3.1 sh_28 (b := 1) rfl)) ?_
        refine hq_F.call hj3_128 rfl rfl si_0_83 (by decide) (by decide) sz_98 (sy_argsV h3.1 sh_1 rfl rfl rfl (Nat.le_of_ble_eq_true rfl) rfl (Nat.le_of_ble_eq_true rfl) rfl (by decide)) (ct_adv (d := d + 1) h3 h2t) (fun _ _ q => by rw [q.2.1.1.1, h3.1.1]) ?_
        rintro r128 w4 ⟨rfl, h4, F4⟩
        try dsimp only
        have hL4 := hL3.fr F4 (by decide) (by decide)
        have hl4 := (gv_eq (hq_cell F4 (c := 28) (i := 5) (by decide))).trans hl3
        refine hq_F.st (s' := (132, _, _, _)) hj3_131 rfl rfl rfl (hs_al (hg_nr (hg_nr g0 (by decide)) (by decide))) ?_
        refine hq_F.st (s' := (133, _, _, _)) hj3_132 rfl rfl rfl (hs_iln (pi_get_set _ _ _)) ?_
        refine hq_F.st (s' := (134, _, _, _)) hj3_133 rfl rfl rfl (hs_iln (hg_ne (pi_get_set _ _ _) (by decide))) ?_
        refine hq_F.st (s' := (135, _, _, _)) hj3_134 rfl rfl rfl rfl ?_
        refine hq_F.call hj3_135 rfl rfl si_0_70 (by decide) (by decide) sz_5 (sy_argsV h4.1 sh_28 rfl rfl rfl (Nat.le_of_ble_eq_true rfl) rfl (Nat.le_of_ble_eq_true rfl) rfl (by decide)) (dc_add (d := d + 2) (n := n) h4.1 hl4 l3 (by omega) (by omega)) (fun _ _ q => by rw [q.2.1.1, h4.1.1]) ?_
        rintro r135 w8 ⟨rfl, hC8, F8, e8⟩
        try dsimp only
        refine hq_F.en hj3_138 rfl rfl ?_
        exact ⟨hC8, ((F3.cov (by decide)).tr ((F4.cov (by decide)).tr (F8.cov (by decide)))), Or.inl ⟨rfl, ((F3.cov (by decide)).tr ((F4.cov (by decide)).tr (F8.cov (by decide)))), e8, l3, (tq_nx tp B M (tq_nx tp B M t)), by unfold dy_man; rw [lm, ls_br]; show ls_b (dy_m tp B M n t) _ = _; rw [eM, ls_br]; unfold dy_act; rw [if_neg (by omega), if_neg (by omega)]; exact if_pos (by omega), h4.fr hC8 F8 rfl⟩⟩
      by_cases hk12 : ls_k (tq_nx tp B M t) = 12
      · have h2t : 2 ≤ (tq_nx tp B M t).1 := by rw [ls_k2 (t := (tq_nx tp B M t)) (by omega)]; omega
        refine hq_F.st (s' := (124, _, _, _)) hj3_36 rfl rfl rfl (ts_in (n := 3) (by omega) (by omega) rfl rfl) ?_
        refine hq_F.st (s' := (125, _, _, _)) hj3_124 rfl rfl rfl (hs_al (hg_nr (hg_nr g0 (by decide)) (by decide))) ?_
        refine hq_F.st (s' := (128, _, _, _)) hj3_125 rfl rfl rfl (hq_gf h3.1 sh_28 sk_0_9 (hq_ref h3.1 sh_28 (b := 1) rfl)) ?_
        refine hq_F.call hj3_128 rfl rfl si_0_83 (by decide) (by decide) sz_98 (sy_argsV h3.1 sh_1 rfl rfl rfl (Nat.le_of_ble_eq_true rfl) rfl (Nat.le_of_ble_eq_true rfl) rfl (by decide)) (ct_adv (d := d + 1) h3 h2t) (fun _ _ q => by rw [q.2.1.1.1, h3.1.1]) ?_
        rintro r128 w4 ⟨rfl, h4, F4⟩
        try dsimp only
        have hL4 := hL3.fr F4 (by decide) (by decide)
        have hl4 := (gv_eq (hq_cell F4 (c := 28) (i := 5) (by decide))).trans hl3
        refine hq_F.st (s' := (132, _, _, _)) hj3_131 rfl rfl rfl (hs_al (hg_nr (hg_nr g0 (by decide)) (by decide))) ?_
        refine hq_F.st (s' := (133, _, _, _)) hj3_132 rfl rfl rfl (hs_iln (pi_get_set _ _ _)) ?_
        refine hq_F.st (s' := (134, _, _, _)) hj3_133 rfl rfl rfl (hs_iln (hg_ne (pi_get_set _ _ _) (by decide))) ?_
        refine hq_F.st (s' := (135, _, _, _)) hj3_134 rfl rfl rfl rfl ?_
        refine hq_F.call hj3_135 rfl rfl si_0_70 (by decide) (by decide) sz_5 (sy_argsV h4.1 sh_28 rfl rfl rfl (Nat.le_of_ble_eq_true rfl) rfl (Nat.le_of_ble_eq_true rfl) rfl (by decide)) (dc_add (d := d + 2) (n := n) h4.1 hl4 l3 (by omega) (by omega)) (fun _ _ q => by rw [q.2.1.1, h4.1.1]) ?_
        rintro r135 w8 ⟨rfl, hC8, F8, e8⟩
        try dsimp only
        refine hq_F.en hj3_138 rfl rfl ?_
        exact ⟨hC8, ((F3.cov (by decide)).tr ((F4.cov (by decide)).tr (F8.cov (by decide)))), Or.inl ⟨rfl, ((F3.cov (by decide)).tr ((F4.cov (by decide)).tr (F8.cov (by decide)))), e8, l3, (tq_nx tp B M (tq_nx tp B M t)), by unfold dy_man; rw [lm, ls_br]; show ls_b (dy_m tp B M n t) _ = _; rw [eM, ls_br]; unfold dy_act; rw [if_neg (by omega), if_neg (by omega)]; exact if_pos (by omega), h4.fr hC8 F8 rfl⟩⟩
      by_cases hk13 : ls_k (tq_nx tp B M t) = 13
      · have h2t : 2 ≤ (tq_nx tp B M t).1 := by rw [ls_k2 (t := (tq_nx tp B M t)) (by omega)]; omega
        refine hq_F.st (s' := (124, _, _, _)) hj3_36 rfl rfl rfl (ts_in (n := 4) (by omega) (by omega) rfl rfl) ?_
        refine hq_F.st (s' := (125, _, _, _)) hj3_124 rfl rfl rfl (hs_al (hg_nr (hg_nr g0 (by decide)) (by decide))) ?_
        refine hq_F.st (s' := (128, _, _, _)) hj3_125 rfl rfl rfl (hq_gf h3.1 sh_28 sk_0_9 (hq_ref h3.1 sh_28 (b := 1) rfl)) ?_
        refine hq_F.call hj3_128 rfl rfl si_0_83 (by decide) (by decide) sz_98 (sy_argsV h3.1 sh_1 rfl rfl rfl (Nat.le_of_ble_eq_true rfl) rfl (Nat.le_of_ble_eq_true rfl) rfl (by decide)) (ct_adv (d := d + 1) h3 h2t) (fun _ _ q => by rw [q.2.1.1.1, h3.1.1]) ?_
        rintro r128 w4 ⟨rfl, h4, F4⟩
        try dsimp only
        have hL4 := hL3.fr F4 (by decide) (by decide)
        have hl4 := (gv_eq (hq_cell F4 (c := 28) (i := 5) (by decide))).trans hl3
        refine hq_F.st (s' := (132, _, _, _)) hj3_131 rfl rfl rfl (hs_al (hg_nr (hg_nr g0 (by decide)) (by decide))) ?_
        refine hq_F.st (s' := (133, _, _, _)) hj3_132 rfl rfl rfl (hs_iln (pi_get_set _ _ _)) ?_
        refine hq_F.st (s' := (134, _, _, _)) hj3_133 rfl rfl rfl (hs_iln (hg_ne (pi_get_set _ _ _) (by decide))) ?_
        refine hq_F.st (s' := (135, _, _, _)) hj3_134 rfl rfl rfl rfl ?_
        refine hq_F.call hj3_135 rfl rfl si_0_70 (by decide) (by decide) sz_5 (sy_argsV h4.1 sh_28 rfl rfl rfl (Nat.le_of_ble_eq_true rfl) rfl (Nat.le_of_ble_eq_true rfl) rfl (by decide)) (dc_add (d := d + 2) (n := n) h4.1 hl4 l3 (by omega) (by omega)) (fun _ _ q => by rw [q.2.1.1, h4.1.1]) ?_
        rintro r135 w8 ⟨rfl, hC8, F8, e8⟩
        try dsimp only
        refine hq_F.en hj3_138 rfl rfl ?_
        exact ⟨hC8, ((F3.cov (by decide)).tr ((F4.cov (by decide)).tr (F8.cov (by decide)))), Or.inl ⟨rfl, ((F3.cov (by decide)).tr ((F4.cov (by decide)).tr (F8.cov (by decide)))), e8, l3, (tq_nx tp B M (tq_nx tp B M t)), by unfold dy_man; rw [lm, ls_br]; show ls_b (dy_m tp B M n t) _ = _; rw [eM, ls_br]; unfold dy_act; rw [if_neg (by omega), if_neg (by omega)]; exact if_pos (by omega), h4.fr hC8 F8 rfl⟩⟩
      refine hq_F.st (s' := (139, _, _, _)) hj3_36 rfl rfl rfl (ts_out (by omega) rfl) ?_
      refine hq_F.st (s' := (140, _, _, _)) hj3_139 rfl rfl rfl (hs_al (hg_nr (hg_nr g0 (by decide)) (by decide))) ?_
      refine hq_F.st (s' := (143, _, _, _)) hj3_140 rfl rfl rfl (hq_gf h3.1 sh_28 sk_0_9 (hq_ref h3.1 sh_28 (b := 1) rfl)) ?_
      refine hq_F.st (s' := (144, _, _, _)) hj3_143 rfl rfl rfl rfl ?_
      refine hq_F.call hj3_144 rfl rfl si_0_59 (by decide) (by decide) sz_103 (sy_argsV h3.1 sh_1 rfl rfl rfl (Nat.le_of_ble_eq_true rfl) rfl (Nat.le_of_ble_eq_true rfl) rfl (by decide)) (ct_ref h3 ((Int32.ofInt 1))) (fun _ _ q => by rw [q.2.1.1.1, h3.1.1]) ?_
      rintro r144 w9 ⟨rfl, k1, k2, k3, k4⟩
      try dsimp only
      refine hq_F.en hj3_147 rfl rfl ?_
      exact ⟨k1.1, ((F3.cov (by decide)).tr (k2.cov (by decide))), Or.inr ⟨rfl, 1, (tq_nx tp B M t).2.1, by unfold dy_man; rw [lm, ls_br]; show ls_b (dy_m tp B M n t) _ = _; rw [eM, ls_br]; unfold dy_act; rw [if_neg (by omega), if_neg (by omega)]; exact if_neg (by omega), ⟨by rw [k3]; decide, k4⟩⟩⟩
    · have eM : dy_m tp B M n t = .inl (4, t.2.1) := if_neg l3
      refine hq_F.st (s' := (25, _, _, _)) hj3_22 rfl rfl rfl (hs_ifn (t := 27) (ci_nen (by omega)) rfl) ?_
      refine hq_F.st (s' := (26, _, _, _)) hj3_25 rfl rfl rfl rfl ?_
      refine hq_F.en hj3_26 rfl rfl ?_
      exact ⟨h3.1, (F3.cov (by decide)), Or.inr ⟨rfl, 4, t.2.1, by unfold dy_man; rw [lm, ls_br]; show ls_b (dy_m tp B M n t) _ = _; rw [eM]; rfl, q⟩⟩
  · skip
    refine hq_F.st (s' := (13, _, _, _)) hj3_12 rfl rfl rfl rfl ?_
    refine hq_F.st (s' := (14, _, _, _)) hj3_13 rfl rfl rfl (hs_iln (pi_get_set _ _ _)) ?_
    refine hq_F.st (s' := (15, _, _, _)) hj3_14 rfl rfl rfl rfl ?_
    refine hq_F.st (s' := (25, _, _, _)) hj3_15 rfl rfl rfl (hs_ic (ci_eq (by omega)) rfl) ?_
    refine hq_F.st (s' := (26, _, _, _)) hj3_25 rfl rfl rfl rfl ?_
    refine hq_F.en hj3_26 rfl rfl ?_
    rcases q with ⟨q1, q2⟩ | ⟨q1, q2, q3⟩
    · exact ⟨h2.1, (F2.cov (by decide)), Or.inr ⟨rfl, 1, t.2.1, by unfold dy_man; rw [ls_look_1 q1]; rfl, q2⟩⟩
    · exact ⟨h2.1, (F2.cov (by decide)), Or.inr ⟨rfl, 3, t.2.1, by unfold dy_man; rw [ls_look_3 q1 q2]; rfl, q3⟩⟩
theorem dc_line {d B M n nr : Nat} {tp : Nat → Nat} {A : ld_A} {NT : List nt_E} {w : pi_W} {t : tq_T} (h : CT tp B M w t) (hL : CL w 5 6 A nr NT) (ho : nt_ok NT) (hcs : nt_cs NT) (hl : gv w 28 5 = Int32.ofNat n) (hn : n ≤ 40) : hq_F (d + 5) sm2 (dc_P tp B M n (dy_line tp B M NT n t) w) (0, lv_args 0 [.ref 28], [], w) := by
  obtain ⟨m0, m2, m3, m4⟩ := hcs
  have g0 : pi_get (lv_args 0 [.ref 28]) 0 = some (.ref 28) := rfl
  have kc0 : (((Int8.ofInt 14).toInt32)).toInt = 14 := by decide
  have kc1 : (((Int8.ofInt 15).toInt32)).toInt = 15 := by decide
  have kc2 : (((Int8.ofInt 16).toInt32)).toInt = 16 := by decide
  have kc3 : (((Int8.ofInt 60).toInt32)).toInt = 60 := by decide
  have kc4 : ((-1 : Int32)).toInt = (-1) := by decide
  have kc5 : ((0 : Int32)).toInt = 0 := by decide
  have kc6 : ((1 : Int32)).toInt = 1 := by decide
  have kc7 : ((Int32.ofInt (-1))).toInt = (-1) := by decide
  have kc8 : ((Int32.ofInt 0)).toInt = 0 := by decide
  have kc9 : ((Int32.ofInt 1)).toInt = 1 := by decide
  have kc10 : ((Int32.ofInt 3)).toInt = 3 := by decide
  have kz := sy_z0
  refine hq_F.st (s' := (1, _, _, _)) hj2_0 rfl rfl rfl (hs_al g0) ?_
  refine hq_F.st (s' := (4, _, _, _)) hj2_1 rfl rfl rfl (hq_gf h.1 sh_28 sk_0_9 (hq_ref h.1 sh_28 (b := 1) rfl)) ?_
  refine hq_F.call hj2_4 rfl rfl si_0_50 (by decide) (by decide) sz_107 (sy_argsV h.1 sh_1 rfl rfl rfl (Nat.le_of_ble_eq_true rfl) rfl (Nat.le_of_ble_eq_true rfl) rfl (by decide)) (ct_isN h) (fun _ _ q => by rw [q.1]) ?_
  rintro r4 w ⟨rfl, rfl⟩
  try dsimp only
  by_cases hnm : t.1 = 2 ∧ tq_kx t.2.2.2.1 = -1
  · rw [decide_eq_true hnm, show tq_b true = (1 : Int32) from rfl]
    refine hq_F.st (s' := (10, _, _, _)) hj2_7 rfl rfl rfl (hs_ifn (t := 15) (ci_eqn (by omega)) rfl) ?_
    refine hq_F.st (s' := (11, _, _, _)) hj2_10 rfl rfl rfl (hs_al g0) ?_
    refine hq_F.call hj2_11 rfl rfl si_0_53 (by decide) (by decide) sz_3 (sy_argsV h.1 sh_28 rfl rfl rfl (Nat.le_of_ble_eq_true rfl) rfl (Nat.le_of_ble_eq_true rfl) rfl (by decide)) (dc_man (d := d) h hL ho ⟨m0, m2, m3, m4⟩ hl hn) (fun _ _ q => by rw [q.1.1, h.1.1]) ?_
    rintro r11 w2 ⟨hC2, G2, q⟩
    try dsimp only
    rcases q with ⟨rfl, q1, q2, q3, t2, q4, q5⟩ | ⟨rfl, k, p, q4, q5⟩
    · skip
      refine hq_F.en hj2_14 rfl rfl ?_
      exact ⟨hC2, G2, Or.inl ⟨rfl, q1, q2, q3, t2, by unfold dy_line; rw [if_pos (show ls_nm t = true from decide_eq_true hnm)]; exact q4, q5⟩⟩
    · skip
      refine hq_F.en hj2_14 rfl rfl ?_
      exact ⟨hC2, G2, Or.inr ⟨rfl, k, p, by unfold dy_line; rw [if_pos (show ls_nm t = true from decide_eq_true hnm)]; exact q4, q5⟩⟩
  · rw [decide_eq_false hnm, show tq_b false = (0 : Int32) from rfl]
    have hnf : ¬ ls_nm t = true := fun q => hnm (of_decide_eq_true q)
    refine hq_F.st (s' := (15, _, _, _)) hj2_7 rfl rfl rfl (hs_if (ci_eq (by omega)) rfl) ?_
    refine hq_F.st (s' := (16, _, _, _)) hj2_15 rfl rfl rfl (hs_al g0) ?_
    refine hq_F.st (s' := (19, _, _, _)) hj2_16 rfl rfl rfl (hq_gf h.1 sh_28 sk_0_9 (hq_ref h.1 sh_28 (b := 1) rfl)) ?_
    refine hq_F.st (s' := (22, _, _, _)) hj2_19 rfl rfl rfl (hq_gf h.1 sh_1 sk_0_56 (sy_v h.1 (by decide) rfl)) ?_
    have h9 : (gv w 1 9).toInt = ls_k t := h.2.2.2.2.1.2.2.2.2.1
    refine hq_F.st (s' := (23, _, _, _)) hj2_22 rfl rfl rfl rfl ?_
    refine hq_F.st (s' := (24, _, _, _)) hj2_23 rfl rfl rfl (hs_iln (pi_get_set _ _ _)) ?_
    refine hq_F.st (s' := (26, _, _, _)) hj2_24 rfl rfl rfl rfl ?_
    by_cases b26 : ((gv w 1 9)).toInt = 14
    · skip
      refine hq_F.st (s' := (50, _, _, _)) hj2_26 rfl rfl rfl (hs_ic (ci_eq (by omega)) rfl) ?_
      have h2t : 2 ≤ t.1 := by rw [ls_k2 (t := t) (by omega)]; omega
      refine hq_F.st (s' := (51, _, _, _)) hj2_50 rfl rfl rfl (hs_al (hg_nr g0 (by decide))) ?_
      refine hq_F.call hj2_51 rfl rfl si_0_63 (by decide) (by decide) sz_4 (sy_argsV h.1 sh_28 rfl rfl rfl (Nat.le_of_ble_eq_true rfl) rfl (Nat.le_of_ble_eq_true rfl) rfl (by decide)) (dc_tf (d := d + 1) (n := n) h h2t (by rw [hl]; exact hn_t (by omega))) (fun r w' q => by rcases q with ⟨_, _, q, _⟩ | ⟨_, _, q, _⟩; rw [q.1.1, h.1.1]; rw [q.1.1, h.1.1]) ?_
      rintro r51 w3 q
      try dsimp only
      rcases q with ⟨rfl, l3, h3, F3⟩ | ⟨rfl, l3, h3, F3, q⟩
      · have eM : dy_m tp B M n t = .inr (tq_nx tp B M t) := if_pos l3
        have hL3 := hL.fr F3 (by decide) (by decide)
        have hl3 := (gv_eq (hq_cell F3 (c := 28) (i := 5) (by decide))).trans hl
        refine hq_F.st (s' := (59, _, _, _)) hj2_54 rfl rfl rfl (hs_if (ci_ne (by omega)) rfl) ?_
        refine hq_F.st (s' := (60, _, _, _)) hj2_59 rfl rfl rfl (hs_iln (pi_get_set _ _ _)) ?_
        refine hq_F.st (s' := (62, _, _, _)) hj2_60 rfl rfl rfl rfl ?_
        refine hq_F.st (s' := (82, _, _, _)) hj2_62 rfl rfl rfl (hs_ic (ci_ne (by omega)) rfl) ?_
        refine hq_F.st (s' := (83, _, _, _)) hj2_82 rfl rfl rfl (hs_iln (pi_get_set _ _ _)) ?_
        refine hq_F.st (s' := (85, _, _, _)) hj2_83 rfl rfl rfl rfl ?_
        refine hq_F.st (s' := (107, _, _, _)) hj2_85 rfl rfl rfl (hs_ic (ci_ne (by omega)) rfl) ?_
        refine hq_F.st (s' := (108, _, _, _)) hj2_107 rfl rfl rfl (hs_al (hg_nr g0 (by decide))) ?_
        refine hq_F.st (s' := (111, _, _, _)) hj2_108 rfl rfl rfl (hq_gf h3.1 sh_28 sk_0_9 (hq_ref h3.1 sh_28 (b := 1) rfl)) ?_
        refine hq_F.st (s' := (112, _, _, _)) hj2_111 rfl rfl rfl (hs_al (hg_nr g0 (by decide))) ?_
        refine hq_F.st (s' := (115, _, _, _)) hj2_112 rfl rfl rfl (hq_gf h3.1 sh_28 sk_0_15 (hq_ref h3.1 sh_28 (b := 4) rfl)) ?_
        refine hq_F.st (s' := (116, _, _, _)) hj2_115 rfl rfl rfl rfl ?_
        refine hq_F.call hj2_116 rfl rfl si_0_76 (by decide) (by decide) sz_109 (sy_argsV h3.1 sh_1 rfl rfl rfl (Nat.le_of_ble_eq_true rfl) rfl (Nat.le_of_ble_eq_true rfl) rfl (by decide)) (cn_tk_l (d := d + 1) (s := 3) h3 hL3.1 ho (by decide)) (fun r w' q => by rcases q with ⟨_, _, _, _, _, q, _⟩ | ⟨_, q, _⟩; rw [q.1.1, h3.1.1]; rw [q.1.1, h3.1.1]) ?_
        rintro r116 w4 q
        try dsimp only
        rcases q with ⟨v4, rfl, n4, e4, f4, h4, F4⟩ | ⟨rfl, h4, F4, q⟩
        · obtain ⟨c, hc, rfl, lc⟩ := ls_look_in ho (by omega) n4 e4 f4
          have tc : (Int32.ofNat c).toInt = (c : Int) := hn_t (by omega)
          have hl4 := (gv_eq (hq_cell F4 (c := 28) (i := 5) (by decide))).trans hl3
          have hL4 := hL3.fr F4 (by decide) (by decide)
          refine hq_F.st (s' := (120, _, _, _)) hj2_119 rfl rfl rfl rfl ?_
          refine hq_F.st (s' := (121, _, _, _)) hj2_120 rfl rfl rfl (hs_iln (pi_get_set _ _ _)) ?_
          refine hq_F.st (s' := (122, _, _, _)) hj2_121 rfl rfl rfl rfl ?_
          refine hq_F.st (s' := (125, _, _, _)) hj2_122 rfl rfl rfl (hs_icn (t := 150) (ci_eqn (by omega)) rfl) ?_
          refine hq_F.st (s' := (126, _, _, _)) hj2_125 rfl rfl rfl (hs_al (hg_nr (hg_nr g0 (by decide)) (by decide))) ?_
          refine hq_F.st (s' := (127, _, _, _)) hj2_126 rfl rfl rfl (hs_iln (hg_ne (pi_get_set _ _ _) (by decide))) ?_
          refine hq_F.st (s' := (128, _, _, _)) hj2_127 rfl rfl rfl (hs_iln (pi_get_set _ _ _)) ?_
          refine hq_F.st (s' := (129, _, _, _)) hj2_128 rfl rfl rfl (hs_al (hg_nr (hg_nr g0 (by decide)) (by decide))) ?_
          refine hq_F.st (s' := (132, _, _, _)) hj2_129 rfl rfl rfl (hq_gf h4.1 sh_28 sk_0_9 (hq_ref h4.1 sh_28 (b := 1) rfl)) ?_
          refine hq_F.st (s' := (133, _, _, _)) hj2_132 rfl rfl rfl (hs_al (hg_nr (hg_nr g0 (by decide)) (by decide))) ?_
          refine hq_F.st (s' := (136, _, _, _)) hj2_133 rfl rfl rfl (hq_gf h4.1 sh_28 sk_0_15 (hq_ref h4.1 sh_28 (b := 4) rfl)) ?_
          refine hq_F.st (s' := (137, _, _, _)) hj2_136 rfl rfl rfl rfl ?_
          refine hq_F.call hj2_137 rfl rfl si_0_76 (by decide) (by decide) sz_109 (sy_argsV h4.1 sh_1 rfl rfl rfl (Nat.le_of_ble_eq_true rfl) rfl (Nat.le_of_ble_eq_true rfl) rfl (by decide)) (cn_tk_l (d := d + 1) (s := 0) h4 hL4.1 ho (by decide)) (fun r w' q => by rcases q with ⟨_, _, _, _, _, q, _⟩ | ⟨_, q, _⟩; rw [q.1.1, h4.1.1]; rw [q.1.1, h4.1.1]) ?_
          rintro r137 w5 q
          try dsimp only
          rcases q with ⟨v5, rfl, n5, e5, f5, h5, F5⟩ | ⟨rfl, h5, F5, q⟩
          · obtain ⟨b, hb, rfl, lb⟩ := ls_look_in ho (by omega) n5 e5 f5
            have tb : (Int32.ofNat b).toInt = (b : Int) := hn_t (by omega)
            have hl5 := (gv_eq (hq_cell F5 (c := 28) (i := 5) (by decide))).trans hl4
            have hL5 := hL4.fr F5 (by decide) (by decide)
            refine hq_F.call hj2_140 rfl rfl si_0_70 (by decide) (by decide) sz_5 (sy_argsV h5.1 sh_28 rfl rfl rfl (Nat.le_of_ble_eq_true rfl) rfl (Nat.le_of_ble_eq_true rfl) rfl (by decide)) (dc_add (d := d + 3) (n := n) h5.1 hl5 l3 (by omega) (by omega)) (fun _ _ q => by rw [q.2.1.1, h5.1.1]) ?_
            rintro r140 w8 ⟨rfl, hC8, F8, e8⟩
            try dsimp only
            refine hq_F.st (s' := (146, _, _, _)) hj2_143 rfl rfl rfl (hs_ifn (t := 150) (ci_eqn (by omega)) rfl) ?_
            refine hq_F.st (s' := (147, _, _, _)) hj2_146 rfl rfl rfl rfl ?_
            refine hq_F.st (s' := (151, _, _, _)) hj2_147 rfl rfl rfl rfl ?_
            refine hq_F.en hj2_151 rfl rfl ?_
            exact ⟨hC8, ((F3.cov (by decide)).tr ((F4.cov (by decide)).tr ((F5.cov (by decide)).tr (F8.cov (by decide))))), Or.inl ⟨rfl, ((F3.cov (by decide)).tr ((F4.cov (by decide)).tr ((F5.cov (by decide)).tr (F8.cov (by decide))))), e8, l3, (tq_nx tp B M (tq_nx tp B M (tq_nx tp B M t))), by unfold dy_line; rw [if_neg hnf]; rw [if_pos (by omega), eM]; rw [ls_br]; show ls_b (dy_nm tp B M 3 NT (tq_nx tp B M t)) _ = _; unfold dy_nm; rw [lc]; show ls_b (ls_look 0 (tq_nx tp B M (tq_nx tp B M t)) NT) _ = _; rw [lb]; rfl, h5.fr hC8 F8 rfl⟩⟩
          · skip
            refine hq_F.call hj2_140 rfl rfl si_0_70 (by decide) (by decide) sz_5 (sy_argsV h5.1 sh_28 rfl rfl rfl (Nat.le_of_ble_eq_true rfl) rfl (Nat.le_of_ble_eq_true rfl) rfl (by decide)) (dc_add0 (d := d + 3 + 1) h5.1 (by omega)) (fun _ _ q => by rw [q.1]) ?_
            rintro r140 w5 ⟨rfl, rfl⟩
            try dsimp only
            refine hq_F.st (s' := (150, _, _, _)) hj2_143 rfl rfl rfl (hs_if (ci_eq (by omega)) rfl) ?_
            refine hq_F.st (s' := (151, _, _, _)) hj2_150 rfl rfl rfl rfl ?_
            refine hq_F.en hj2_151 rfl rfl ?_
            rcases q with ⟨q1, q2⟩ | ⟨q1, q2, q3⟩
            · exact ⟨h5.1, ((F3.cov (by decide)).tr ((F4.cov (by decide)).tr (F5.cov (by decide)))), Or.inr ⟨rfl, 1, (tq_nx tp B M (tq_nx tp B M t)).2.1, by unfold dy_line; rw [if_neg hnf]; rw [if_pos (by omega), eM]; rw [ls_br]; show ls_b (dy_nm tp B M 3 NT (tq_nx tp B M t)) _ = _; unfold dy_nm; rw [lc]; show ls_b (ls_look 0 (tq_nx tp B M (tq_nx tp B M t)) NT) _ = _; rw [ls_look_1 q1]; rfl, q2⟩⟩
            · exact ⟨h5.1, ((F3.cov (by decide)).tr ((F4.cov (by decide)).tr (F5.cov (by decide)))), Or.inr ⟨rfl, 3, (tq_nx tp B M (tq_nx tp B M t)).2.1, by unfold dy_line; rw [if_neg hnf]; rw [if_pos (by omega), eM]; rw [ls_br]; show ls_b (dy_nm tp B M 3 NT (tq_nx tp B M t)) _ = _; unfold dy_nm; rw [lc]; show ls_b (ls_look 0 (tq_nx tp B M (tq_nx tp B M t)) NT) _ = _; rw [ls_look_3 q1 q2]; rfl, q3⟩⟩
        · skip
          refine hq_F.st (s' := (120, _, _, _)) hj2_119 rfl rfl rfl rfl ?_
          refine hq_F.st (s' := (121, _, _, _)) hj2_120 rfl rfl rfl (hs_iln (pi_get_set _ _ _)) ?_
          refine hq_F.st (s' := (122, _, _, _)) hj2_121 rfl rfl rfl rfl ?_
          refine hq_F.st (s' := (150, _, _, _)) hj2_122 rfl rfl rfl (hs_ic (ci_eq (by omega)) rfl) ?_
          refine hq_F.st (s' := (151, _, _, _)) hj2_150 rfl rfl rfl rfl ?_
          refine hq_F.en hj2_151 rfl rfl ?_
          rcases q with ⟨q1, q2⟩ | ⟨q1, q2, q3⟩
          · exact ⟨h4.1, ((F3.cov (by decide)).tr (F4.cov (by decide))), Or.inr ⟨rfl, 1, (tq_nx tp B M t).2.1, by unfold dy_line; rw [if_neg hnf]; rw [if_pos (by omega), eM]; rw [ls_br]; show ls_b (dy_nm tp B M 3 NT (tq_nx tp B M t)) _ = _; unfold dy_nm; rw [ls_look_1 q1]; rfl, q2⟩⟩
          · exact ⟨h4.1, ((F3.cov (by decide)).tr (F4.cov (by decide))), Or.inr ⟨rfl, 3, (tq_nx tp B M t).2.1, by unfold dy_line; rw [if_neg hnf]; rw [if_pos (by omega), eM]; rw [ls_br]; show ls_b (dy_nm tp B M 3 NT (tq_nx tp B M t)) _ = _; unfold dy_nm; rw [ls_look_3 q1 q2]; rfl, q3⟩⟩
      · have eM : dy_m tp B M n t = .inl (4, t.2.1) := if_neg l3
        refine hq_F.st (s' := (57, _, _, _)) hj2_54 rfl rfl rfl (hs_ifn (t := 59) (ci_nen (by omega)) rfl) ?_
        refine hq_F.st (s' := (58, _, _, _)) hj2_57 rfl rfl rfl rfl ?_
        refine hq_F.en hj2_58 rfl rfl ?_
        exact ⟨h3.1, (F3.cov (by decide)), Or.inr ⟨rfl, 4, t.2.1, by unfold dy_line; rw [if_neg hnf]; rw [if_pos (by omega), eM]; rfl, q⟩⟩
    · skip
      refine hq_F.st (s' := (29, _, _, _)) hj2_26 rfl rfl rfl (hs_icn (t := 50) (ci_eqn (by omega)) rfl) ?_
      refine hq_F.st (s' := (30, _, _, _)) hj2_29 rfl rfl rfl (hs_iln (pi_get_set _ _ _)) ?_
      refine hq_F.st (s' := (32, _, _, _)) hj2_30 rfl rfl rfl rfl ?_
      by_cases b32 : ((gv w 1 9)).toInt = 15
      · skip
        refine hq_F.st (s' := (50, _, _, _)) hj2_32 rfl rfl rfl (hs_ic (ci_eq (by omega)) rfl) ?_
        have h2t : 2 ≤ t.1 := by rw [ls_k2 (t := t) (by omega)]; omega
        refine hq_F.st (s' := (51, _, _, _)) hj2_50 rfl rfl rfl (hs_al (hg_nr g0 (by decide))) ?_
        refine hq_F.call hj2_51 rfl rfl si_0_63 (by decide) (by decide) sz_4 (sy_argsV h.1 sh_28 rfl rfl rfl (Nat.le_of_ble_eq_true rfl) rfl (Nat.le_of_ble_eq_true rfl) rfl (by decide)) (dc_tf (d := d + 1) (n := n) h h2t (by rw [hl]; exact hn_t (by omega))) (fun r w' q => by rcases q with ⟨_, _, q, _⟩ | ⟨_, _, q, _⟩; rw [q.1.1, h.1.1]; rw [q.1.1, h.1.1]) ?_
        rintro r51 w3 q
        try dsimp only
        rcases q with ⟨rfl, l3, h3, F3⟩ | ⟨rfl, l3, h3, F3, q⟩
        · have eM : dy_m tp B M n t = .inr (tq_nx tp B M t) := if_pos l3
          have hL3 := hL.fr F3 (by decide) (by decide)
          have hl3 := (gv_eq (hq_cell F3 (c := 28) (i := 5) (by decide))).trans hl
          refine hq_F.st (s' := (59, _, _, _)) hj2_54 rfl rfl rfl (hs_if (ci_ne (by omega)) rfl) ?_
          refine hq_F.st (s' := (60, _, _, _)) hj2_59 rfl rfl rfl (hs_iln (pi_get_set _ _ _)) ?_
          refine hq_F.st (s' := (62, _, _, _)) hj2_60 rfl rfl rfl rfl ?_
          refine hq_F.st (s' := (82, _, _, _)) hj2_62 rfl rfl rfl (hs_ic (ci_ne (by omega)) rfl) ?_
          refine hq_F.st (s' := (83, _, _, _)) hj2_82 rfl rfl rfl (hs_iln (pi_get_set _ _ _)) ?_
          refine hq_F.st (s' := (85, _, _, _)) hj2_83 rfl rfl rfl rfl ?_
          refine hq_F.st (s' := (88, _, _, _)) hj2_85 rfl rfl rfl (hs_icn (t := 107) (ci_nen (by omega)) rfl) ?_
          refine hq_F.st (s' := (89, _, _, _)) hj2_88 rfl rfl rfl (hs_al (hg_nr g0 (by decide))) ?_
          refine hq_F.st (s' := (90, _, _, _)) hj2_89 rfl rfl rfl (hs_iln (pi_get_set _ _ _)) ?_
          refine hq_F.st (s' := (91, _, _, _)) hj2_90 rfl rfl rfl (hs_al (hg_nr g0 (by decide))) ?_
          refine hq_F.st (s' := (94, _, _, _)) hj2_91 rfl rfl rfl (hq_gf h3.1 sh_28 sk_0_9 (hq_ref h3.1 sh_28 (b := 1) rfl)) ?_
          refine hq_F.st (s' := (95, _, _, _)) hj2_94 rfl rfl rfl (hs_al (hg_nr g0 (by decide))) ?_
          refine hq_F.st (s' := (98, _, _, _)) hj2_95 rfl rfl rfl (hq_gf h3.1 sh_28 sk_0_15 (hq_ref h3.1 sh_28 (b := 4) rfl)) ?_
          refine hq_F.st (s' := (99, _, _, _)) hj2_98 rfl rfl rfl rfl ?_
          refine hq_F.call hj2_99 rfl rfl si_0_76 (by decide) (by decide) sz_109 (sy_argsV h3.1 sh_1 rfl rfl rfl (Nat.le_of_ble_eq_true rfl) rfl (Nat.le_of_ble_eq_true rfl) rfl (by decide)) (cn_tk_l (d := d + 1) (s := 0) h3 hL3.1 ho (by decide)) (fun r w' q => by rcases q with ⟨_, _, _, _, _, q, _⟩ | ⟨_, q, _⟩; rw [q.1.1, h3.1.1]; rw [q.1.1, h3.1.1]) ?_
          rintro r99 w4 q
          try dsimp only
          rcases q with ⟨v4, rfl, n4, e4, f4, h4, F4⟩ | ⟨rfl, h4, F4, q⟩
          · obtain ⟨b, hb, rfl, lb⟩ := ls_look_in ho (by omega) n4 e4 f4
            have tb : (Int32.ofNat b).toInt = (b : Int) := hn_t (by omega)
            have hl4 := (gv_eq (hq_cell F4 (c := 28) (i := 5) (by decide))).trans hl3
            have hL4 := hL3.fr F4 (by decide) (by decide)
            refine hq_F.st (s' := (103, _, _, _)) hj2_102 rfl rfl rfl rfl ?_
            refine hq_F.call hj2_103 rfl rfl si_0_70 (by decide) (by decide) sz_5 (sy_argsV h4.1 sh_28 rfl rfl rfl (Nat.le_of_ble_eq_true rfl) rfl (Nat.le_of_ble_eq_true rfl) rfl (by decide)) (dc_add (d := d + 3) (n := n) h4.1 hl4 l3 (by omega) (by omega)) (fun _ _ q => by rw [q.2.1.1, h4.1.1]) ?_
            rintro r103 w8 ⟨rfl, hC8, F8, e8⟩
            try dsimp only
            refine hq_F.en hj2_106 rfl rfl ?_
            exact ⟨hC8, ((F3.cov (by decide)).tr ((F4.cov (by decide)).tr (F8.cov (by decide)))), Or.inl ⟨rfl, ((F3.cov (by decide)).tr ((F4.cov (by decide)).tr (F8.cov (by decide)))), e8, l3, (tq_nx tp B M (tq_nx tp B M t)), by unfold dy_line; rw [if_neg hnf]; rw [if_neg (by omega), if_pos (by omega), eM]; rw [ls_br]; unfold dy_nm; rw [lb]; rfl, h4.fr hC8 F8 rfl⟩⟩
          · skip
            refine hq_F.st (s' := (103, _, _, _)) hj2_102 rfl rfl rfl rfl ?_
            refine hq_F.call hj2_103 rfl rfl si_0_70 (by decide) (by decide) sz_5 (sy_argsV h4.1 sh_28 rfl rfl rfl (Nat.le_of_ble_eq_true rfl) rfl (Nat.le_of_ble_eq_true rfl) rfl (by decide)) (dc_add0 (d := d + 3 + 1) h4.1 (by omega)) (fun _ _ q => by rw [q.1]) ?_
            rintro r103 w4 ⟨rfl, rfl⟩
            try dsimp only
            refine hq_F.en hj2_106 rfl rfl ?_
            rcases q with ⟨q1, q2⟩ | ⟨q1, q2, q3⟩
            · exact ⟨h4.1, ((F3.cov (by decide)).tr (F4.cov (by decide))), Or.inr ⟨rfl, 1, (tq_nx tp B M t).2.1, by unfold dy_line; rw [if_neg hnf]; rw [if_neg (by omega), if_pos (by omega), eM]; rw [ls_br]; unfold dy_nm; rw [ls_look_1 q1]; rfl, q2⟩⟩
            · exact ⟨h4.1, ((F3.cov (by decide)).tr (F4.cov (by decide))), Or.inr ⟨rfl, 3, (tq_nx tp B M t).2.1, by unfold dy_line; rw [if_neg hnf]; rw [if_neg (by omega), if_pos (by omega), eM]; rw [ls_br]; unfold dy_nm; rw [ls_look_3 q1 q2]; rfl, q3⟩⟩
        · have eM : dy_m tp B M n t = .inl (4, t.2.1) := if_neg l3
          refine hq_F.st (s' := (57, _, _, _)) hj2_54 rfl rfl rfl (hs_ifn (t := 59) (ci_nen (by omega)) rfl) ?_
          refine hq_F.st (s' := (58, _, _, _)) hj2_57 rfl rfl rfl rfl ?_
          refine hq_F.en hj2_58 rfl rfl ?_
          exact ⟨h3.1, (F3.cov (by decide)), Or.inr ⟨rfl, 4, t.2.1, by unfold dy_line; rw [if_neg hnf]; rw [if_neg (by omega), if_pos (by omega), eM]; rfl, q⟩⟩
      · skip
        refine hq_F.st (s' := (35, _, _, _)) hj2_32 rfl rfl rfl (hs_icn (t := 50) (ci_eqn (by omega)) rfl) ?_
        refine hq_F.st (s' := (36, _, _, _)) hj2_35 rfl rfl rfl (hs_iln (pi_get_set _ _ _)) ?_
        refine hq_F.st (s' := (38, _, _, _)) hj2_36 rfl rfl rfl rfl ?_
        by_cases b38 : ((gv w 1 9)).toInt = 16
        · skip
          refine hq_F.st (s' := (50, _, _, _)) hj2_38 rfl rfl rfl (hs_ic (ci_eq (by omega)) rfl) ?_
          have h2t : 2 ≤ t.1 := by rw [ls_k2 (t := t) (by omega)]; omega
          refine hq_F.st (s' := (51, _, _, _)) hj2_50 rfl rfl rfl (hs_al (hg_nr g0 (by decide))) ?_
          refine hq_F.call hj2_51 rfl rfl si_0_63 (by decide) (by decide) sz_4 (sy_argsV h.1 sh_28 rfl rfl rfl (Nat.le_of_ble_eq_true rfl) rfl (Nat.le_of_ble_eq_true rfl) rfl (by decide)) (dc_tf (d := d + 1) (n := n) h h2t (by rw [hl]; exact hn_t (by omega))) (fun r w' q => by rcases q with ⟨_, _, q, _⟩ | ⟨_, _, q, _⟩; rw [q.1.1, h.1.1]; rw [q.1.1, h.1.1]) ?_
          rintro r51 w3 q
          try dsimp only
          rcases q with ⟨rfl, l3, h3, F3⟩ | ⟨rfl, l3, h3, F3, q⟩
          · have eM : dy_m tp B M n t = .inr (tq_nx tp B M t) := if_pos l3
            have hL3 := hL.fr F3 (by decide) (by decide)
            have hl3 := (gv_eq (hq_cell F3 (c := 28) (i := 5) (by decide))).trans hl
            refine hq_F.st (s' := (59, _, _, _)) hj2_54 rfl rfl rfl (hs_if (ci_ne (by omega)) rfl) ?_
            refine hq_F.st (s' := (60, _, _, _)) hj2_59 rfl rfl rfl (hs_iln (pi_get_set _ _ _)) ?_
            refine hq_F.st (s' := (62, _, _, _)) hj2_60 rfl rfl rfl rfl ?_
            refine hq_F.st (s' := (65, _, _, _)) hj2_62 rfl rfl rfl (hs_icn (t := 82) (ci_nen (by omega)) rfl) ?_
            refine hq_F.st (s' := (66, _, _, _)) hj2_65 rfl rfl rfl (hs_al (hg_nr g0 (by decide))) ?_
            refine hq_F.st (s' := (67, _, _, _)) hj2_66 rfl rfl rfl (hs_iln (pi_get_set _ _ _)) ?_
            refine hq_F.st (s' := (68, _, _, _)) hj2_67 rfl rfl rfl (hs_al (hg_nr g0 (by decide))) ?_
            refine hq_F.st (s' := (71, _, _, _)) hj2_68 rfl rfl rfl (hq_gf h3.1 sh_28 sk_0_9 (hq_ref h3.1 sh_28 (b := 1) rfl)) ?_
            refine hq_F.st (s' := (72, _, _, _)) hj2_71 rfl rfl rfl rfl ?_
            refine hq_F.st (s' := (74, _, _, _)) hj2_72 rfl rfl rfl rfl ?_
            refine hq_F.call hj2_74 rfl rfl si_0_66 (by decide) (by decide) sz_106 (sy_argsV h3.1 sh_1 rfl rfl rfl (Nat.le_of_ble_eq_true rfl) rfl (Nat.le_of_ble_eq_true rfl) rfl (by decide)) (ct_num (d := d + 1) h3 (Int32.ofInt 1) ((Int8.ofInt 60).toInt32)) (fun r w' q => by rcases q with ⟨_, _, _, _, _, q, _⟩ | ⟨_, q, _⟩; rw [q.1.1, h3.1.1]; rw [q.1.1, h3.1.1]) ?_
            rintro r74 w4 q
            try dsimp only
            rcases q with ⟨v4, rfl, e4, n4, r4, h4, F4⟩ | ⟨rfl, h4, F4, r4, q⟩
            · have hl4 := (gv_eq (hq_cell F4 (c := 28) (i := 5) (by decide))).trans hl3
              refine hq_F.st (s' := (78, _, _, _)) hj2_77 rfl rfl rfl rfl ?_
              refine hq_F.call hj2_78 rfl rfl si_0_70 (by decide) (by decide) sz_5 (sy_argsV h4.1 sh_28 rfl rfl rfl (Nat.le_of_ble_eq_true rfl) rfl (Nat.le_of_ble_eq_true rfl) rfl (by decide)) (dc_add (d := d + 3) (n := n) h4.1 hl4 l3 (by omega) (by omega)) (fun _ _ q => by rw [q.2.1.1, h4.1.1]) ?_
              rintro r78 w8 ⟨rfl, hC8, F8, e8⟩
              try dsimp only
              refine hq_F.en hj2_81 rfl rfl ?_
              exact ⟨hC8, ((F3.cov (by decide)).tr ((F4.cov (by decide)).tr (F8.cov (by decide)))), Or.inl ⟨rfl, ((F3.cov (by decide)).tr ((F4.cov (by decide)).tr (F8.cov (by decide)))), e8, l3, (tq_nx tp B M (tq_nx tp B M t)), by unfold dy_line; rw [if_neg hnf]; rw [if_neg (by omega), if_neg (by omega), if_pos (by omega), eM]; rw [ls_br]; unfold dy_num; rw [show ls_numb 1 60 (tq_nx tp B M t) = .inr (tq_nx tp B M t).2.2.1 from if_pos ⟨n4, by omega, by omega⟩]; rfl, h4.fr hC8 F8 rfl⟩⟩
            · skip
              refine hq_F.st (s' := (78, _, _, _)) hj2_77 rfl rfl rfl rfl ?_
              refine hq_F.call hj2_78 rfl rfl si_0_70 (by decide) (by decide) sz_5 (sy_argsV h4.1 sh_28 rfl rfl rfl (Nat.le_of_ble_eq_true rfl) rfl (Nat.le_of_ble_eq_true rfl) rfl (by decide)) (dc_add0 (d := d + 3 + 1) h4.1 (by omega)) (fun _ _ q => by rw [q.1]) ?_
              rintro r78 w4 ⟨rfl, rfl⟩
              try dsimp only
              refine hq_F.en hj2_81 rfl rfl ?_
              exact ⟨h4.1, ((F3.cov (by decide)).tr (F4.cov (by decide))), Or.inr ⟨rfl, (if (tq_nx tp B M t).1 = 3 then 2 else 1), (tq_nx tp B M t).2.1, by unfold dy_line; rw [if_neg hnf]; rw [if_neg (by omega), if_neg (by omega), if_pos (by omega), eM]; rw [ls_br]; unfold dy_num; rw [show ls_numb 1 60 (tq_nx tp B M t) = .inl (if (tq_nx tp B M t).1 = 3 then 2 else 1, (tq_nx tp B M t).2.1) from if_neg (fun q => r4 ⟨q.1, by omega, by omega⟩)]; rfl, q⟩⟩
          · have eM : dy_m tp B M n t = .inl (4, t.2.1) := if_neg l3
            refine hq_F.st (s' := (57, _, _, _)) hj2_54 rfl rfl rfl (hs_ifn (t := 59) (ci_nen (by omega)) rfl) ?_
            refine hq_F.st (s' := (58, _, _, _)) hj2_57 rfl rfl rfl rfl ?_
            refine hq_F.en hj2_58 rfl rfl ?_
            exact ⟨h3.1, (F3.cov (by decide)), Or.inr ⟨rfl, 4, t.2.1, by unfold dy_line; rw [if_neg hnf]; rw [if_neg (by omega), if_neg (by omega), if_pos (by omega), eM]; rfl, q⟩⟩
        · skip
          refine hq_F.st (s' := (41, _, _, _)) hj2_38 rfl rfl rfl (hs_icn (t := 50) (ci_eqn (by omega)) rfl) ?_
          refine hq_F.st (s' := (42, _, _, _)) hj2_41 rfl rfl rfl (hs_al (hg_nr g0 (by decide))) ?_
          refine hq_F.st (s' := (45, _, _, _)) hj2_42 rfl rfl rfl (hq_gf h.1 sh_28 sk_0_9 (hq_ref h.1 sh_28 (b := 1) rfl)) ?_
          refine hq_F.st (s' := (46, _, _, _)) hj2_45 rfl rfl rfl rfl ?_
          refine hq_F.call hj2_46 rfl rfl si_0_59 (by decide) (by decide) sz_103 (sy_argsV h.1 sh_1 rfl rfl rfl (Nat.le_of_ble_eq_true rfl) rfl (Nat.le_of_ble_eq_true rfl) rfl (by decide)) (ct_ref h ((Int32.ofInt 1))) (fun _ _ q => by rw [q.2.1.1.1, h.1.1]) ?_
          rintro r46 w9 ⟨rfl, k1, k2, k3, k4⟩
          try dsimp only
          refine hq_F.en hj2_49 rfl rfl ?_
          exact ⟨k1.1, (k2.cov (by decide)), Or.inr ⟨rfl, 1, t.2.1, by unfold dy_line; rw [if_neg hnf]; rw [if_neg (by omega), if_neg (by omega)]; exact if_neg (by omega), ⟨by rw [k3]; decide, k4⟩⟩⟩
/-- what readLines of the class does: it is whole and there is no FAULT; or there is this one -/
def dc_PL (F : Option (Int × Nat)) (r : Option Value) (w' : pi_W) : Prop := af_Conf aw_Sh w' ∧ ((r = some (.int 1) ∧ F = none ∧ gv w' 1 10 = 0) ∨ (r = some (.int 0) ∧ ∃ k p, F = some (k, p) ∧ FC w' k p))
theorem dc_lnl {d B M nr : Nat} {tp : Nat → Nat} {A : ld_A} {NT : List nt_E} (ho : nt_ok NT) (hcs : nt_cs NT) : ∀ (f n : Nat) {w : pi_W} {t : tq_T} {lv : pi_L}, n + f = 41 → n ≤ 40 → CT tp B M w t → CL w 5 6 A nr NT → gv w 28 5 = Int32.ofNat n → gv w 1 10 = 0 → pi_get lv 0 = some (.ref 28) → pi_get lv 1 = some (.int (Int32.ofNat n)) → hq_F (d + 6) sm1 (dc_PL (dy_lines tp B M NT f n t)) (17, lv, [], w) := by
  intro f
  induction f with
  | zero =>
    intro n w t lv hi hn
    omega
  | succ f ih =>
    intro n w t lv hi hn h hL hl hz0 g0 g1
    have ti : (Int32.ofNat n).toInt = (n : Int) := hn_t (by omega)
    have kc0 : (((Int8.ofInt 40).toInt32)).toInt = 40 := by decide
    have kc1 : (((Int8.ofInt 59).toInt32)).toInt = 59 := by decide
    have kc2 : ((0 : Int32)).toInt = 0 := by decide
    have kc3 : ((1 : Int32)).toInt = 1 := by decide
    have kc4 : ((Int32.ofInt 0)).toInt = 0 := by decide
    have kc5 : ((Int32.ofInt 1)).toInt = 1 := by decide
    have kz := sy_z0
    refine hq_F.st (s' := (18, _, _, _)) hj1_17 rfl rfl rfl (hs_iln g1) ?_
    refine hq_F.st (s' := (20, _, _, _)) hj1_18 rfl rfl rfl rfl ?_
    refine hq_F.st (s' := (23, _, _, _)) hj1_20 rfl rfl rfl (hs_icn (t := 62) (ci_gtn (by omega)) rfl) ?_
    refine hq_F.st (s' := (24, _, _, _)) hj1_23 rfl rfl rfl (hs_al g0) ?_
    refine hq_F.st (s' := (27, _, _, _)) hj1_24 rfl rfl rfl (hq_gf h.1 sh_28 sk_0_9 (hq_ref h.1 sh_28 (b := 1) rfl)) ?_
    refine hq_F.st (s' := (30, _, _, _)) hj1_27 rfl rfl rfl (hq_gf h.1 sh_1 sk_0_39 (sy_v h.1 (by decide) rfl)) ?_
    have h5 := h.2.2.2.2.1.1
    by_cases b30 : ¬ ((gv w 1 5)).toInt = 0
    · skip
      refine hq_F.st (s' := (35, _, _, _)) hj1_30 rfl rfl rfl (hs_if (ci_ne (by omega)) rfl) ?_
      have hz : ¬ t.1 = 0 := by omega
      refine hq_F.st (s' := (36, _, _, _)) hj1_35 rfl rfl rfl (hs_al g0) ?_
      refine hq_F.call hj1_36 rfl rfl si_0_42 (by decide) (by decide) sz_2 (sy_argsV h.1 sh_28 rfl rfl rfl (Nat.le_of_ble_eq_true rfl) rfl (Nat.le_of_ble_eq_true rfl) rfl (by decide)) (dc_line (d := d) h hL ho hcs hl (by omega)) (fun _ _ q => by rw [q.1.1, h.1.1]) ?_
      rintro r36 w1 ⟨hC1, G1, q⟩
      try dsimp only
      rcases q with ⟨rfl, F1, e1, l1, t1, d1, h1⟩ | ⟨rfl, k, p, d1, q1⟩
      · skip
        refine hq_F.st (s' := (42, _, _, _)) hj1_39 rfl rfl rfl (hs_ifn (t := 54) (ci_eqn (by omega)) rfl) ?_
        refine hq_F.st (s' := (43, _, _, _)) hj1_42 rfl rfl rfl (hs_al g0) ?_
        refine hq_F.st (s' := (46, _, _, _)) hj1_43 rfl rfl rfl (hq_gf hC1 sh_28 sk_0_9 (hq_ref hC1 sh_28 (b := 1) rfl)) ?_
        refine hq_F.st (s' := (48, _, _, _)) hj1_46 rfl rfl rfl rfl ?_
        refine hq_F.call hj1_48 rfl rfl si_0_46 (by decide) (by decide) sz_105 (sy_argsV hC1 sh_1 rfl rfl rfl (Nat.le_of_ble_eq_true rfl) rfl (Nat.le_of_ble_eq_true rfl) rfl (by decide)) (ct_tkS (d := d + 2) (c := 59) h1 (by decide)) (fun r w' q => by rcases q with ⟨_, _, q, _⟩ | ⟨_, _, q, _⟩; rw [q.1.1, hC1.1]; rw [q.1.1, hC1.1]) ?_
        rintro r48 w2 q
        try dsimp only
        rcases q with ⟨rfl, s2, h2, F2⟩ | ⟨rfl, s2, h2, F2, q2⟩
        · skip
          refine hq_F.st (s' := (56, _, _, _)) hj1_51 rfl rfl rfl (hs_if (ci_ne (by omega)) rfl) ?_
          refine hq_F.st (s' := (59, _, _, _)) hj1_56 rfl rfl rfl (hs_inc g1 (by decide)) ?_
          refine hq_F.st (s' := (17, _, _, _)) hj1_59 rfl rfl rfl rfl ?_
          rw [dy_e3 (f := f) hz d1 (decide_eq_true s2)]
          exact ih (n + 1) (by omega) (by omega) h2 ((hL.fr F1 (by decide) (by decide)).fr F2 (by decide) (by decide)) ((gv_eq (hq_cell F2 (by decide))).trans e1) (((gv_eq (F2 1 10 (by decide))).trans (gv_eq (F1 1 10 (by decide)))).trans hz0) (hg_nr g0 (by decide)) (by rw [← hn_s]; exact (pi_get_set _ _ _))
        · skip
          refine hq_F.st (s' := (54, _, _, _)) hj1_51 rfl rfl rfl (hs_ifn (t := 56) (ci_nen (by omega)) rfl) ?_
          refine hq_F.st (s' := (55, _, _, _)) hj1_54 rfl rfl rfl rfl ?_
          refine hq_F.en hj1_55 rfl rfl ?_
          exact ⟨h2.1, Or.inr ⟨rfl, 1, t1.2.1, dy_e2 hz d1 (fun q => s2 (of_decide_eq_true q)), q2⟩⟩
      · skip
        refine hq_F.st (s' := (54, _, _, _)) hj1_39 rfl rfl rfl (hs_if (ci_eq (by omega)) rfl) ?_
        refine hq_F.st (s' := (55, _, _, _)) hj1_54 rfl rfl rfl rfl ?_
        refine hq_F.en hj1_55 rfl rfl ?_
        exact ⟨hC1, Or.inr ⟨rfl, k, p, dy_e1 hz d1, q1⟩⟩
    · skip
      refine hq_F.st (s' := (33, _, _, _)) hj1_30 rfl rfl rfl (hs_ifn (t := 35) (ci_nen (by omega)) rfl) ?_
      have hz : t.1 = 0 := by omega
      refine hq_F.st (s' := (34, _, _, _)) hj1_33 rfl rfl rfl rfl ?_
      refine hq_F.en hj1_34 rfl rfl ?_
      exact ⟨h.1, Or.inl ⟨rfl, dy_e0 hz, hz0⟩⟩
theorem dc_lines {d B nr : Nat} {tp : Nat → Nat} {A : ld_A} {NT : List nt_E} {w : pi_W} (hC : af_Conf aw_Sh w) (hP : tc_P tp B w) (hV : tq_V w) (hL : CL w 5 6 A nr NT) (ho : nt_ok NT) (hcs : nt_cs NT) : hq_F (d + 6) sm1 (dc_PL (dy_lines tp B 400 NT 41 0 (tq_tok tp B 400 0))) (0, lv_args 0 [.ref 28], [], w) := by
  have g0 : pi_get (lv_args 0 [.ref 28]) 0 = some (.ref 28) := rfl
  have kc0 : (((Int16.ofInt 400).toInt32)).toInt = 400 := by decide
  have kc1 : ((0 : Int32)).toInt = 0 := by decide
  have kc2 : ((1 : Int32)).toInt = 1 := by decide
  have kc3 : ((Int32.ofInt 0)).toInt = 0 := by decide
  have kz := sy_z0
  refine hq_F.st (s' := (1, _, _, _)) hj1_0 rfl rfl rfl (hs_al g0) ?_
  refine hq_F.st (s' := (2, _, _, _)) hj1_1 rfl rfl rfl rfl ?_
  refine sy_pf hj1_2 hC sh_28 sk_0_29 (lo := -2147483648) (hi := 2147483647) rfl (af_i32 _) rfl rfl rfl (fun w21 hC21 hw21 => ?_)
  refine hq_F.st (s' := (6, _, _, _)) hj1_5 rfl rfl rfl (hs_al g0) ?_
  refine hq_F.st (s' := (9, _, _, _)) hj1_6 rfl rfl rfl (hq_gf hC21 sh_28 sk_0_9 (hq_ref hC21 sh_28 (b := 1) rfl)) ?_
  refine hq_F.st (s' := (12, _, _, _)) hj1_9 rfl rfl rfl rfl ?_
  refine hq_F.call hj1_12 rfl rfl si_0_33 (by decide) (by decide) sz_97 (sy_argsV hC21 sh_1 rfl rfl rfl (Nat.le_of_ble_eq_true rfl) rfl (Nat.le_of_ble_eq_true rfl) rfl (by decide)) (cl_beg0 (d := d + 2) (M := 400) hC21 (hP.fr (wpF hw21) (by decide) (by decide)) (fun k hk => by rw [gl_eq (hq_cell (wpF hw21) (by decide))]; exact hV k hk) (by decide)) (fun _ _ q => by rw [q.2.1.1.1, hC21.1]) ?_
  rintro r12 w2 ⟨rfl, h2, F2, z2⟩
  try dsimp only
  refine hq_F.st (s' := (16, _, _, _)) hj1_15 rfl rfl rfl rfl ?_
  refine hq_F.st (s' := (17, _, _, _)) hj1_16 rfl rfl rfl rfl ?_
  exact dc_lnl (d := d) ho hcs 41 0 (by omega) (by omega) h2 ((hL.fr (wpF hw21) (by decide) (by decide)).fr F2 (by decide) (by decide)) (by rw [gv_eq (hq_cell F2 (by decide)), wpv hw21, if_pos ⟨rfl, rfl⟩]; rfl) z2 (hg_nr g0 (by decide)) (pi_get_set _ _ _)
