/-! ===== the model: readRound, readLaw; by program ===== -/
theorem si_11_210 : pi_look pi_iT 11 210 = some (2, 185, 1, 1418) := rfl
theorem si_11_223 : pi_look pi_iT 11 223 = some (2, 183, 3, 1449) := rfl
def sm190 : pi_M := (11, 3, (some .boolean), false, mc_190)
def sm191 : pi_M := (11, 3, (some .boolean), false, mc_191)
set_option maxRecDepth 100000 in
theorem sz_190 : pi_mt[190]? = some (mn_190, prog_13_method_30_code, (11, 3, (some .boolean), false, mc_190)) := rfl
set_option maxRecDepth 100000 in
theorem sz_191 : pi_mt[191]? = some (mn_191, prog_13_method_31_code, (11, 3, (some .boolean), false, mc_191)) := rfl
theorem hg191_0 : pi_fetch mc_191 0 = some (.aload_n 0, 1) := rfl
theorem hg191_1 : pi_fetch mc_191 1 = some (.invokevirtual 181, 3) := rfl
theorem hg191_4 : pi_fetch mc_191 4 = some (.aload_n 0, 1) := rfl
theorem hg191_5 : pi_fetch mc_191 5 = some (.bipush 48, 2) := rfl
theorem hg191_7 : pi_fetch mc_191 7 = some (.aload_n 0, 1) := rfl
theorem hg191_8 : pi_fetch mc_191 8 = some (.getfield 37, 3) := rfl
theorem hg191_11 : pi_fetch mc_191 11 = some (.iconst 4, 1) := rfl
theorem hg191_12 : pi_fetch mc_191 12 = some (.iaload, 1) := rfl
theorem hg191_13 : pi_fetch mc_191 13 = some (.invokevirtual 203, 3) := rfl
theorem hg191_16 : pi_fetch mc_191 16 = some (.ifCond .ne 5, 3) := rfl
theorem hg191_19 : pi_fetch mc_191 19 = some (.iconst 0, 1) := rfl
theorem hg191_20 : pi_fetch mc_191 20 = some (.ireturn, 1) := rfl
theorem hg191_21 : pi_fetch mc_191 21 = some (.aload_n 0, 1) := rfl
theorem hg191_22 : pi_fetch mc_191 22 = some (.getfield 188, 3) := rfl
theorem hg191_25 : pi_fetch mc_191 25 = some (.istore_n 1, 1) := rfl
theorem hg191_26 : pi_fetch mc_191 26 = some (.aload_n 0, 1) := rfl
theorem hg191_27 : pi_fetch mc_191 27 = some (.getfield 37, 3) := rfl
theorem hg191_30 : pi_fetch mc_191 30 = some (.bipush 45, 2) := rfl
theorem hg191_32 : pi_fetch mc_191 32 = some (.iload_n 1, 1) := rfl
theorem hg191_33 : pi_fetch mc_191 33 = some (.iadd, 1) := rfl
theorem hg191_34 : pi_fetch mc_191 34 = some (.iaload, 1) := rfl
theorem hg191_35 : pi_fetch mc_191 35 = some (.ifCond .le 9, 3) := rfl
theorem hg191_38 : pi_fetch mc_191 38 = some (.aload_n 0, 1) := rfl
theorem hg191_39 : pi_fetch mc_191 39 = some (.iconst 3, 1) := rfl
theorem hg191_40 : pi_fetch mc_191 40 = some (.invokevirtual 178, 3) := rfl
theorem hg191_43 : pi_fetch mc_191 43 = some (.ireturn, 1) := rfl
theorem hg191_44 : pi_fetch mc_191 44 = some (.aload_n 0, 1) := rfl
theorem hg191_45 : pi_fetch mc_191 45 = some (.invokevirtual 181, 3) := rfl
theorem hg191_48 : pi_fetch mc_191 48 = some (.iconst 0, 1) := rfl
theorem hg191_49 : pi_fetch mc_191 49 = some (.istore_n 2, 1) := rfl
theorem hg191_50 : pi_fetch mc_191 50 = some (.iload_n 2, 1) := rfl
theorem hg191_51 : pi_fetch mc_191 51 = some (.ifCond .eq 12, 3) := rfl
theorem hg191_54 : pi_fetch mc_191 54 = some (.aload_n 0, 1) := rfl
theorem hg191_55 : pi_fetch mc_191 55 = some (.bipush 59, 2) := rfl
theorem hg191_57 : pi_fetch mc_191 57 = some (.invokevirtual 175, 3) := rfl
theorem hg191_60 : pi_fetch mc_191 60 = some (.ifCond .ne 60, 3) := rfl
theorem hg191_63 : pi_fetch mc_191 63 = some (.aload_n 0, 1) := rfl
theorem hg191_64 : pi_fetch mc_191 64 = some (.bipush 27, 2) := rfl
theorem hg191_66 : pi_fetch mc_191 66 = some (.aload_n 0, 1) := rfl
theorem hg191_67 : pi_fetch mc_191 67 = some (.getfield 37, 3) := rfl
theorem hg191_70 : pi_fetch mc_191 70 = some (.iconst 0, 1) := rfl
theorem hg191_71 : pi_fetch mc_191 71 = some (.iaload, 1) := rfl
theorem hg191_72 : pi_fetch mc_191 72 = some (.invokevirtual 203, 3) := rfl
theorem hg191_75 : pi_fetch mc_191 75 = some (.ifCond .ne 5, 3) := rfl
theorem hg191_78 : pi_fetch mc_191 78 = some (.iconst 0, 1) := rfl
theorem hg191_79 : pi_fetch mc_191 79 = some (.ireturn, 1) := rfl
theorem hg191_80 : pi_fetch mc_191 80 = some (.iload_n 2, 1) := rfl
theorem hg191_81 : pi_fetch mc_191 81 = some (.bipush 8, 2) := rfl
theorem hg191_83 : pi_fetch mc_191 83 = some (.if_icmp .ne 9, 3) := rfl
theorem hg191_86 : pi_fetch mc_191 86 = some (.aload_n 0, 1) := rfl
theorem hg191_87 : pi_fetch mc_191 87 = some (.iconst 4, 1) := rfl
theorem hg191_88 : pi_fetch mc_191 88 = some (.invokevirtual 178, 3) := rfl
theorem hg191_91 : pi_fetch mc_191 91 = some (.ireturn, 1) := rfl
theorem hg191_92 : pi_fetch mc_191 92 = some (.aload_n 0, 1) := rfl
theorem hg191_93 : pi_fetch mc_191 93 = some (.getfield 37, 3) := rfl
theorem hg191_96 : pi_fetch mc_191 96 = some (.bipush 51, 2) := rfl
theorem hg191_98 : pi_fetch mc_191 98 = some (.bipush 8, 2) := rfl
theorem hg191_100 : pi_fetch mc_191 100 = some (.iload_n 1, 1) := rfl
theorem hg191_101 : pi_fetch mc_191 101 = some (.imul, 1) := rfl
theorem hg191_102 : pi_fetch mc_191 102 = some (.iadd, 1) := rfl
theorem hg191_103 : pi_fetch mc_191 103 = some (.iload_n 2, 1) := rfl
theorem hg191_104 : pi_fetch mc_191 104 = some (.iadd, 1) := rfl
theorem hg191_105 : pi_fetch mc_191 105 = some (.aload_n 0, 1) := rfl
theorem hg191_106 : pi_fetch mc_191 106 = some (.getfield 188, 3) := rfl
theorem hg191_109 : pi_fetch mc_191 109 = some (.iastore, 1) := rfl
theorem hg191_110 : pi_fetch mc_191 110 = some (.iinc 2 1, 3) := rfl
theorem hg191_113 : pi_fetch mc_191 113 = some (.aload_n 0, 1) := rfl
theorem hg191_114 : pi_fetch mc_191 114 = some (.invokevirtual 181, 3) := rfl
theorem hg191_117 : pi_fetch mc_191 117 = some (.goto (-67), 3) := rfl
theorem hg191_120 : pi_fetch mc_191 120 = some (.aload_n 0, 1) := rfl
theorem hg191_121 : pi_fetch mc_191 121 = some (.getfield 37, 3) := rfl
theorem hg191_124 : pi_fetch mc_191 124 = some (.bipush 45, 2) := rfl
theorem hg191_126 : pi_fetch mc_191 126 = some (.iload_n 1, 1) := rfl
theorem hg191_127 : pi_fetch mc_191 127 = some (.iadd, 1) := rfl
theorem hg191_128 : pi_fetch mc_191 128 = some (.iload_n 2, 1) := rfl
theorem hg191_129 : pi_fetch mc_191 129 = some (.iastore, 1) := rfl
theorem hg191_130 : pi_fetch mc_191 130 = some (.iconst 1, 1) := rfl
theorem hg191_131 : pi_fetch mc_191 131 = some (.ireturn, 1) := rfl
theorem hg190_0 : pi_fetch mc_190 0 = some (.aload_n 0, 1) := rfl
theorem hg190_1 : pi_fetch mc_190 1 = some (.getfield 37, 3) := rfl
theorem hg190_4 : pi_fetch mc_190 4 = some (.iconst 3, 1) := rfl
theorem hg190_5 : pi_fetch mc_190 5 = some (.iaload, 1) := rfl
theorem hg190_6 : pi_fetch mc_190 6 = some (.istore_n 2, 1) := rfl
theorem hg190_7 : pi_fetch mc_190 7 = some (.iload_n 2, 1) := rfl
theorem hg190_8 : pi_fetch mc_190 8 = some (.bipush 6, 2) := rfl
theorem hg190_10 : pi_fetch mc_190 10 = some (.if_icmp .ne 9, 3) := rfl
theorem hg190_13 : pi_fetch mc_190 13 = some (.aload_n 0, 1) := rfl
theorem hg190_14 : pi_fetch mc_190 14 = some (.iconst 4, 1) := rfl
theorem hg190_15 : pi_fetch mc_190 15 = some (.invokevirtual 178, 3) := rfl
theorem hg190_18 : pi_fetch mc_190 18 = some (.ireturn, 1) := rfl
theorem hg190_19 : pi_fetch mc_190 19 = some (.aload_n 0, 1) := rfl
theorem hg190_20 : pi_fetch mc_190 20 = some (.invokevirtual 181, 3) := rfl
theorem hg190_23 : pi_fetch mc_190 23 = some (.aload_n 0, 1) := rfl
theorem hg190_24 : pi_fetch mc_190 24 = some (.bipush 42, 2) := rfl
theorem hg190_26 : pi_fetch mc_190 26 = some (.iload_n 2, 1) := rfl
theorem hg190_27 : pi_fetch mc_190 27 = some (.iadd, 1) := rfl
theorem hg190_28 : pi_fetch mc_190 28 = some (.invokevirtual 210, 3) := rfl
theorem hg190_31 : pi_fetch mc_190 31 = some (.ifCond .eq 17, 3) := rfl
theorem hg190_34 : pi_fetch mc_190 34 = some (.aload_n 0, 1) := rfl
theorem hg190_35 : pi_fetch mc_190 35 = some (.bipush 15, 2) := rfl
theorem hg190_37 : pi_fetch mc_190 37 = some (.iload_n 2, 1) := rfl
theorem hg190_38 : pi_fetch mc_190 38 = some (.iadd, 1) := rfl
theorem hg190_39 : pi_fetch mc_190 39 = some (.iconst 1, 1) := rfl
theorem hg190_40 : pi_fetch mc_190 40 = some (.bipush 30, 2) := rfl
theorem hg190_42 : pi_fetch mc_190 42 = some (.invokevirtual 223, 3) := rfl
theorem hg190_45 : pi_fetch mc_190 45 = some (.ifCond .ne 5, 3) := rfl
theorem hg190_48 : pi_fetch mc_190 48 = some (.iconst 0, 1) := rfl
theorem hg190_49 : pi_fetch mc_190 49 = some (.ireturn, 1) := rfl
theorem hg190_50 : pi_fetch mc_190 50 = some (.aload_n 0, 1) := rfl
theorem hg190_51 : pi_fetch mc_190 51 = some (.getfield 37, 3) := rfl
theorem hg190_54 : pi_fetch mc_190 54 = some (.bipush 21, 2) := rfl
theorem hg190_56 : pi_fetch mc_190 56 = some (.iload_n 2, 1) := rfl
theorem hg190_57 : pi_fetch mc_190 57 = some (.iadd, 1) := rfl
theorem hg190_58 : pi_fetch mc_190 58 = some (.iconst 0, 1) := rfl
theorem hg190_59 : pi_fetch mc_190 59 = some (.iastore, 1) := rfl
theorem hg190_60 : pi_fetch mc_190 60 = some (.aload_n 0, 1) := rfl
theorem hg190_61 : pi_fetch mc_190 61 = some (.getfield 37, 3) := rfl
theorem hg190_64 : pi_fetch mc_190 64 = some (.bipush 27, 2) := rfl
theorem hg190_66 : pi_fetch mc_190 66 = some (.iload_n 2, 1) := rfl
theorem hg190_67 : pi_fetch mc_190 67 = some (.iadd, 1) := rfl
theorem hg190_68 : pi_fetch mc_190 68 = some (.iconst 0, 1) := rfl
theorem hg190_69 : pi_fetch mc_190 69 = some (.iastore, 1) := rfl
theorem hg190_70 : pi_fetch mc_190 70 = some (.iload_n 1, 1) := rfl
theorem hg190_71 : pi_fetch mc_190 71 = some (.ifCond .eq 72, 3) := rfl
theorem hg190_74 : pi_fetch mc_190 74 = some (.aload_n 0, 1) := rfl
theorem hg190_75 : pi_fetch mc_190 75 = some (.bipush 42, 2) := rfl
theorem hg190_77 : pi_fetch mc_190 77 = some (.aload_n 0, 1) := rfl
theorem hg190_78 : pi_fetch mc_190 78 = some (.getfield 37, 3) := rfl
theorem hg190_81 : pi_fetch mc_190 81 = some (.iconst 3, 1) := rfl
theorem hg190_82 : pi_fetch mc_190 82 = some (.iaload, 1) := rfl
theorem hg190_83 : pi_fetch mc_190 83 = some (.invokevirtual 203, 3) := rfl
theorem hg190_86 : pi_fetch mc_190 86 = some (.ifCond .ne 5, 3) := rfl
theorem hg190_89 : pi_fetch mc_190 89 = some (.iconst 0, 1) := rfl
theorem hg190_90 : pi_fetch mc_190 90 = some (.ireturn, 1) := rfl
theorem hg190_91 : pi_fetch mc_190 91 = some (.aload_n 0, 1) := rfl
theorem hg190_92 : pi_fetch mc_190 92 = some (.getfield 37, 3) := rfl
theorem hg190_95 : pi_fetch mc_190 95 = some (.bipush 27, 2) := rfl
theorem hg190_97 : pi_fetch mc_190 97 = some (.aload_n 0, 1) := rfl
theorem hg190_98 : pi_fetch mc_190 98 = some (.getfield 188, 3) := rfl
theorem hg190_101 : pi_fetch mc_190 101 = some (.iadd, 1) := rfl
theorem hg190_102 : pi_fetch mc_190 102 = some (.iaload, 1) := rfl
theorem hg190_103 : pi_fetch mc_190 103 = some (.ifCond .le 9, 3) := rfl
theorem hg190_106 : pi_fetch mc_190 106 = some (.aload_n 0, 1) := rfl
theorem hg190_107 : pi_fetch mc_190 107 = some (.iconst 3, 1) := rfl
theorem hg190_108 : pi_fetch mc_190 108 = some (.invokevirtual 178, 3) := rfl
theorem hg190_111 : pi_fetch mc_190 111 = some (.ireturn, 1) := rfl
theorem hg190_112 : pi_fetch mc_190 112 = some (.aload_n 0, 1) := rfl
theorem hg190_113 : pi_fetch mc_190 113 = some (.getfield 37, 3) := rfl
theorem hg190_116 : pi_fetch mc_190 116 = some (.bipush 27, 2) := rfl
theorem hg190_118 : pi_fetch mc_190 118 = some (.iload_n 2, 1) := rfl
theorem hg190_119 : pi_fetch mc_190 119 = some (.iadd, 1) := rfl
theorem hg190_120 : pi_fetch mc_190 120 = some (.aload_n 0, 1) := rfl
theorem hg190_121 : pi_fetch mc_190 121 = some (.getfield 188, 3) := rfl
theorem hg190_124 : pi_fetch mc_190 124 = some (.iconst 1, 1) := rfl
theorem hg190_125 : pi_fetch mc_190 125 = some (.iadd, 1) := rfl
theorem hg190_126 : pi_fetch mc_190 126 = some (.iastore, 1) := rfl
theorem hg190_127 : pi_fetch mc_190 127 = some (.aload_n 0, 1) := rfl
theorem hg190_128 : pi_fetch mc_190 128 = some (.invokevirtual 181, 3) := rfl
theorem hg190_131 : pi_fetch mc_190 131 = some (.aload_n 0, 1) := rfl
theorem hg190_132 : pi_fetch mc_190 132 = some (.getfield 37, 3) := rfl
theorem hg190_135 : pi_fetch mc_190 135 = some (.iconst 3, 1) := rfl
theorem hg190_136 : pi_fetch mc_190 136 = some (.dup2, 1) := rfl
theorem hg190_137 : pi_fetch mc_190 137 = some (.iaload, 1) := rfl
theorem hg190_138 : pi_fetch mc_190 138 = some (.iconst 1, 1) := rfl
theorem hg190_139 : pi_fetch mc_190 139 = some (.iadd, 1) := rfl
theorem hg190_140 : pi_fetch mc_190 140 = some (.iastore, 1) := rfl
theorem hg190_141 : pi_fetch mc_190 141 = some (.iconst 1, 1) := rfl
theorem hg190_142 : pi_fetch mc_190 142 = some (.ireturn, 1) := rfl
theorem hg190_143 : pi_fetch mc_190 143 = some (.aload_n 0, 1) := rfl
theorem hg190_144 : pi_fetch mc_190 144 = some (.getfield 37, 3) := rfl
theorem hg190_147 : pi_fetch mc_190 147 = some (.bipush 21, 2) := rfl
theorem hg190_149 : pi_fetch mc_190 149 = some (.iload_n 2, 1) := rfl
theorem hg190_150 : pi_fetch mc_190 150 = some (.iadd, 1) := rfl
theorem hg190_151 : pi_fetch mc_190 151 = some (.iaload, 1) := rfl
theorem hg190_152 : pi_fetch mc_190 152 = some (.ifCond .eq 12, 3) := rfl
theorem hg190_155 : pi_fetch mc_190 155 = some (.aload_n 0, 1) := rfl
theorem hg190_156 : pi_fetch mc_190 156 = some (.bipush 59, 2) := rfl
theorem hg190_158 : pi_fetch mc_190 158 = some (.invokevirtual 175, 3) := rfl
theorem hg190_161 : pi_fetch mc_190 161 = some (.ifCond .ne 70, 3) := rfl
theorem hg190_164 : pi_fetch mc_190 164 = some (.aload_n 0, 1) := rfl
theorem hg190_165 : pi_fetch mc_190 165 = some (.bipush 37, 2) := rfl
theorem hg190_167 : pi_fetch mc_190 167 = some (.aload_n 0, 1) := rfl
theorem hg190_168 : pi_fetch mc_190 168 = some (.getfield 37, 3) := rfl
theorem hg190_171 : pi_fetch mc_190 171 = some (.iconst 2, 1) := rfl
theorem hg190_172 : pi_fetch mc_190 172 = some (.iaload, 1) := rfl
theorem hg190_173 : pi_fetch mc_190 173 = some (.invokevirtual 203, 3) := rfl
theorem hg190_176 : pi_fetch mc_190 176 = some (.ifCond .ne 5, 3) := rfl
theorem hg190_179 : pi_fetch mc_190 179 = some (.iconst 0, 1) := rfl
theorem hg190_180 : pi_fetch mc_190 180 = some (.ireturn, 1) := rfl
theorem hg190_181 : pi_fetch mc_190 181 = some (.aload_n 0, 1) := rfl
theorem hg190_182 : pi_fetch mc_190 182 = some (.getfield 37, 3) := rfl
theorem hg190_185 : pi_fetch mc_190 185 = some (.bipush 21, 2) := rfl
theorem hg190_187 : pi_fetch mc_190 187 = some (.iload_n 2, 1) := rfl
theorem hg190_188 : pi_fetch mc_190 188 = some (.iadd, 1) := rfl
theorem hg190_189 : pi_fetch mc_190 189 = some (.iaload, 1) := rfl
theorem hg190_190 : pi_fetch mc_190 190 = some (.aload_n 0, 1) := rfl
theorem hg190_191 : pi_fetch mc_190 191 = some (.getfield 188, 3) := rfl
theorem hg190_194 : pi_fetch mc_190 194 = some (.invokestatic 229, 3) := rfl
theorem hg190_197 : pi_fetch mc_190 197 = some (.ifCond .eq 9, 3) := rfl
theorem hg190_200 : pi_fetch mc_190 200 = some (.aload_n 0, 1) := rfl
theorem hg190_201 : pi_fetch mc_190 201 = some (.iconst 3, 1) := rfl
theorem hg190_202 : pi_fetch mc_190 202 = some (.invokevirtual 178, 3) := rfl
theorem hg190_205 : pi_fetch mc_190 205 = some (.ireturn, 1) := rfl
theorem hg190_206 : pi_fetch mc_190 206 = some (.aload_n 0, 1) := rfl
theorem hg190_207 : pi_fetch mc_190 207 = some (.getfield 37, 3) := rfl
theorem hg190_210 : pi_fetch mc_190 210 = some (.bipush 21, 2) := rfl
theorem hg190_212 : pi_fetch mc_190 212 = some (.iload_n 2, 1) := rfl
theorem hg190_213 : pi_fetch mc_190 213 = some (.iadd, 1) := rfl
theorem hg190_214 : pi_fetch mc_190 214 = some (.dup2, 1) := rfl
theorem hg190_215 : pi_fetch mc_190 215 = some (.iaload, 1) := rfl
theorem hg190_216 : pi_fetch mc_190 216 = some (.iconst 1, 1) := rfl
theorem hg190_217 : pi_fetch mc_190 217 = some (.aload_n 0, 1) := rfl
theorem hg190_218 : pi_fetch mc_190 218 = some (.getfield 188, 3) := rfl
theorem hg190_221 : pi_fetch mc_190 221 = some (.ishl, 1) := rfl
theorem hg190_222 : pi_fetch mc_190 222 = some (.ior, 1) := rfl
theorem hg190_223 : pi_fetch mc_190 223 = some (.iastore, 1) := rfl
theorem hg190_224 : pi_fetch mc_190 224 = some (.aload_n 0, 1) := rfl
theorem hg190_225 : pi_fetch mc_190 225 = some (.invokevirtual 181, 3) := rfl
theorem hg190_228 : pi_fetch mc_190 228 = some (.goto (-85), 3) := rfl
theorem hg190_231 : pi_fetch mc_190 231 = some (.aload_n 0, 1) := rfl
theorem hg190_232 : pi_fetch mc_190 232 = some (.getfield 37, 3) := rfl
theorem hg190_235 : pi_fetch mc_190 235 = some (.iconst 3, 1) := rfl
theorem hg190_236 : pi_fetch mc_190 236 = some (.dup2, 1) := rfl
theorem hg190_237 : pi_fetch mc_190 237 = some (.iaload, 1) := rfl
theorem hg190_238 : pi_fetch mc_190 238 = some (.iconst 1, 1) := rfl
theorem hg190_239 : pi_fetch mc_190 239 = some (.iadd, 1) := rfl
theorem hg190_240 : pi_fetch mc_190 240 = some (.iastore, 1) := rfl
theorem hg190_241 : pi_fetch mc_190 241 = some (.iconst 1, 1) := rfl
theorem hg190_242 : pi_fetch mc_190 242 = some (.ireturn, 1) := rfl
theorem hn_rd {m n : Nat} : ((Int8.ofInt 51).toInt32) + (((Int8.ofInt 8).toInt32) * Int32.ofNat m) + Int32.ofNat n = Int32.ofNat (51 + (8 * m + n)) := by
  rw [hv_51, hm_8, ← Int32.ofNat_mul, hn_a, hn_a]
  congr 1
  omega
theorem ml_P.tr {tp : Nat → Nat} {B M : Nat} {F : ls_R} {w w1 : pi_W} {r : Option Value} {w' : pi_W} (h : ml_P tp B M F w1 r w') (hF : af_Fr ml_N w w1) : ml_P tp B M F w r w' := ⟨h.1, hF.tr h.2.1, h.2.2⟩
theorem ml_stop {d B M m n : Nat} {tp : Nat → Nat} {w : pi_W} {σ : ls_S} {lv : pi_L} {Q : Option Value → pi_W → Prop} (h : MT tp B M w σ.1) (hL : MLx w (ld_u σ.2.1 8 m 0) σ.2.2.1 σ.2.2.2 σ.2.2.2) (ho : nt_ok σ.2.2.2) (m0 : nt_c 0 σ.2.2.2 ≤ 10) (hm : m < 6) (hn8 : n ≤ 8) (g0 : pi_get lv 0 = some (.ref 61)) (g1 : pi_get lv 1 = some (.int (Int32.ofNat m))) (g2 : pi_get lv 2 = some (.int (Int32.ofNat n)))
    (hgo : ∀ w' lv' σ1, ls_stop tp B M m n σ = .inr σ1 → MT tp B M w' σ1.1 → MLx w' (ld_u σ1.2.1 8 m 0) σ1.2.2.1 σ1.2.2.2 σ1.2.2.2 → af_Fr ml_N w w' → n < 8 → pi_get lv' 0 = some (.ref 61) → pi_get lv' 1 = some (.int (Int32.ofNat m)) → pi_get lv' 2 = some (.int (Int32.ofNat (n + 1))) → hq_F (d + 3) sm191 Q (50, lv', [], w'))
    (hbad : ∀ w' k p, af_Conf aw_Sh w' → af_Fr ml_N w w' → ls_stop tp B M m n σ = .inl (k, p) → FM w' k p → Q (some (.int 0)) w') : hq_F (d + 3) sm191 Q (63, lv, [], w) := by
  obtain ⟨t, A, nr, NT⟩ := σ
  dsimp only at *
  have tn : (Int32.ofNat n).toInt = (n : Int) := hn_t (by omega)
  have kc0 : (((Int8.ofInt 27).toInt32)).toInt = 27 := by decide
  have kc1 : (((Int8.ofInt 51).toInt32)).toInt = 51 := by decide
  have kc2 : (((Int8.ofInt 8).toInt32)).toInt = 8 := by decide
  have kc3 : ((0 : Int32)).toInt = 0 := by decide
  have kc4 : ((1 : Int32)).toInt = 1 := by decide
  have kc5 : ((Int32.ofInt 0)).toInt = 0 := by decide
  have kc6 : ((Int32.ofInt 4)).toInt = 4 := by decide
  have kz := sy_z0
  refine hq_F.st (s' := (64, _, _, _)) hg191_63 rfl rfl rfl (hs_al g0) ?_
  refine hq_F.st (s' := (66, _, _, _)) hg191_64 rfl rfl rfl rfl ?_
  refine hq_F.st (s' := (67, _, _, _)) hg191_66 rfl rfl rfl (hs_al g0) ?_
  refine hq_F.st (s' := (70, _, _, _)) hg191_67 rfl rfl rfl (hq_gf h.1 sh_61 sk_11_37 (hq_ref h.1 sh_61 (b := 64) rfl)) ?_
  refine hq_F.st (s' := (71, _, _, _)) hg191_70 rfl rfl rfl rfl ?_
  refine hq_F.st (s' := (72, _, _, _)) hg191_71 rfl rfl rfl (sy_iav h.1 sh_64 (n := 0) (by decide) (by decide)) ?_
  refine hq_F.call hg191_72 rfl rfl si_11_203 (by decide) (by decide) sz_186 (sy_argsV h.1 sh_61 rfl rfl rfl (Nat.le_of_ble_eq_true rfl) rfl (Nat.le_of_ble_eq_true rfl) rfl (by decide)) (mn_la (d := d + 1) (off := 27) (s := 0) h hL.1 ho (by decide) (hL.2.1 0 (by omega)) (by show 27 + 0 + nt_c 0 NT ≤ 54; omega)) (fun r w' q => by rcases q with ⟨_, _, _, q, _⟩ | ⟨_, q, _⟩; rw [q.1.1, h.1.1]; rw [q.1.1, h.1.1]) ?_
  rintro r72 w3 q
  try dsimp only
  rcases q with ⟨rfl, n3, f3, h3, F3, g3⟩ | ⟨rfl, h3, F3, q⟩
  · obtain ⟨b, hb, eb, lb⟩ := ls_look_in ho (by omega) n3 g3 f3
    have tb : (Int32.ofNat b).toInt = (b : Int) := hn_t (by omega)
    have hL3 := hL.fr F3 (by decide) (by decide)
    refine hq_F.st (s' := (80, _, _, _)) hg191_75 rfl rfl rfl (hs_if (ci_ne (by omega)) rfl) ?_
    refine hq_F.st (s' := (81, _, _, _)) hg191_80 rfl rfl rfl (hs_iln g2) ?_
    refine hq_F.st (s' := (83, _, _, _)) hg191_81 rfl rfl rfl rfl ?_
    by_cases b83 : ¬ ((Int32.ofNat n)).toInt = 8
    · skip
      refine hq_F.st (s' := (92, _, _, _)) hg191_83 rfl rfl rfl (hs_ic (ci_ne (by omega)) rfl) ?_
      refine hq_F.st (s' := (93, _, _, _)) hg191_92 rfl rfl rfl (hs_al g0) ?_
      refine hq_F.st (s' := (96, _, _, _)) hg191_93 rfl rfl rfl (hq_gf h3.1 sh_61 sk_11_37 (hq_ref h3.1 sh_61 (b := 64) rfl)) ?_
      refine hq_F.st (s' := (98, _, _, _)) hg191_96 rfl rfl rfl rfl ?_
      refine hq_F.st (s' := (100, _, _, _)) hg191_98 rfl rfl rfl rfl ?_
      refine hq_F.st (s' := (101, _, _, _)) hg191_100 rfl rfl rfl (hs_iln g1) ?_
      refine hq_F.st (s' := (102, _, _, _)) hg191_101 rfl rfl rfl rfl ?_
      refine hq_F.st (s' := (103, _, _, _)) hg191_102 rfl rfl rfl rfl ?_
      refine hq_F.st (s' := (104, _, _, _)) hg191_103 rfl rfl rfl (hs_iln g2) ?_
      refine hq_F.st (s' := (105, _, _, _)) hg191_104 rfl rfl rfl rfl ?_
      refine hq_F.st (s' := (106, _, _, _)) hg191_105 rfl rfl rfl (hs_al g0) ?_
      refine hq_F.st (s' := (109, _, _, _)) hg191_106 rfl rfl rfl (hq_gf h3.1 sh_61 sk_11_188 (sy_v h3.1 (by decide) rfl)) ?_
      rw [show gv w3 61 18 = Int32.ofNat b from by exact eb]
      refine sy_isv hg191_109 h3.1 sh_64 (n := 51 + (8 * m + n)) (by rw [hn_rd]; exact hn_t (by omega)) (by omega) (sy_sr (sn_51 _ (by omega) (by omega)) (by omega) (by omega)) (fun w4 hC4 hw4 => ?_)
      have hT4 := h3.fr hC4 (wpF hw4) rfl
      have hL4 := hL3.put (c0 := 9) (k0 := 8 * m + n) (by decide) (by show 8 * m + n < 48; omega) hw4
      refine hq_F.st (s' := (113, _, _, _)) hg191_110 rfl rfl rfl (hs_inc g2 (by decide)) ?_
      refine hq_F.st (s' := (114, _, _, _)) hg191_113 rfl rfl rfl (hs_al (hg_nr g0 (by decide))) ?_
      refine hq_F.call hg191_114 rfl rfl si_11_181 (by decide) (by decide) sz_176 (sy_argsV hC4 sh_61 rfl rfl rfl (Nat.le_of_ble_eq_true rfl) rfl (Nat.le_of_ble_eq_true rfl) rfl (by decide)) (mt_adv (d := d + 1) hT4 (by have := n3.1; omega)) (fun _ _ q => by rw [q.2.1.1.1, hC4.1]) ?_
      rintro r114 w5 ⟨rfl, h5, F5⟩
      try dsimp only
      refine hq_F.st (s' := (50, _, _, _)) hg191_117 rfl rfl rfl rfl ?_
      refine hgo w5 _ (tq_nx tp B M t, ld_u (ld_u A 9 (8 * m + n) (Int32.ofNat b)) 8 m (Int32.ofNat (n + 1)), nr, NT) (by show ls_b (ls_look 0 t NT) _ = _; rw [lb, ls_br]; exact if_neg (by omega)) h5 ?_ ((F3.cov (by decide)).tr ((ml_w64 hw4 (by omega)).tr (F5.cov (by decide)))) (by omega) (hg_nr g0 (by decide)) (hg_ne g1 (by decide)) (by rw [← hn_s]; exact (pi_get_set _ _ _))
      show MLx w5 (ld_u (ld_u (ld_u A 9 (8 * m + n) (Int32.ofNat b)) 8 m (Int32.ofNat (n + 1))) 8 m 0) nr NT NT
      rw [ld_u_u, ← ld_u_comm (by decide)]
      exact hL4.fr F5 (by decide) (by decide)
    · skip
      refine hq_F.st (s' := (86, _, _, _)) hg191_83 rfl rfl rfl (hs_icn (t := 92) (ci_nen (by omega)) rfl) ?_
      refine hq_F.st (s' := (87, _, _, _)) hg191_86 rfl rfl rfl (hs_al g0) ?_
      refine hq_F.st (s' := (88, _, _, _)) hg191_87 rfl rfl rfl rfl ?_
      refine hq_F.call hg191_88 rfl rfl si_11_178 (by decide) (by decide) sz_177 (sy_argsV h3.1 sh_61 rfl rfl rfl (Nat.le_of_ble_eq_true rfl) rfl (Nat.le_of_ble_eq_true rfl) rfl (by decide)) (mt_bad h3 ((Int32.ofInt 4))) (fun _ _ q => by rw [q.2.1.1.1, h3.1.1]) ?_
      rintro r88 w9 ⟨rfl, k1, k2, k3, k4⟩
      try dsimp only
      refine hq_F.en hg191_91 rfl rfl ?_
      exact hbad w9 4 t.2.1 k1.1 ((F3.cov (by decide)).tr (k2.cov (by decide))) (by show ls_b (ls_look 0 t NT) _ = _; rw [lb, ls_br]; exact if_pos (by omega)) ⟨by rw [k3]; decide, k4⟩
  · skip
    refine hq_F.st (s' := (78, _, _, _)) hg191_75 rfl rfl rfl (hs_ifn (t := 80) (ci_nen (by omega)) rfl) ?_
    refine hq_F.st (s' := (79, _, _, _)) hg191_78 rfl rfl rfl rfl ?_
    refine hq_F.en hg191_79 rfl rfl ?_
    rcases q with ⟨q1, q2⟩ | ⟨q1, q2, q3⟩
    · exact hbad w3 1 t.2.1 h3.1 (F3.cov (by decide)) (by show ls_b (ls_look 0 t NT) _ = _; rw [ls_look_1 q1]; rfl) q2
    · exact hbad w3 3 t.2.1 h3.1 (F3.cov (by decide)) (by show ls_b (ls_look 0 t NT) _ = _; rw [ls_look_3 q1 q2]; rfl) q3
theorem ml_stl {d B M m : Nat} {tp : Nat → Nat} (hm : m < 6) : ∀ (f n : Nat) {w : pi_W} {σ : ls_S} {lv : pi_L}, f + n = 10 → n ≤ 8 → 0 < n → MT tp B M w σ.1 → MLx w (ld_u σ.2.1 8 m 0) σ.2.2.1 σ.2.2.2 σ.2.2.2 → nt_ok σ.2.2.2 → nt_c 0 σ.2.2.2 ≤ 10 → σ.2.1 8 m = Int32.ofNat n → pi_get lv 0 = some (.ref 61) → pi_get lv 1 = some (.int (Int32.ofNat m)) → pi_get lv 2 = some (.int (Int32.ofNat n)) → hq_F (d + 3) sm191 (ml_P tp B M (ls_stops tp B M m f n σ) w) (50, lv, [], w) := by
  intro f
  induction f with
  | zero =>
    intro n w σ lv hi hn8
    omega
  | succ f ih =>
    intro n w σ lv hi hn8 hn0 h hL ho m0 hn g0 g1 g2
    have tn : (Int32.ofNat n).toInt = (n : Int) := hn_t (by omega)
    have kc0 : (((Int8.ofInt 45).toInt32)).toInt = 45 := by decide
    have kc1 : (((Int8.ofInt 59).toInt32)).toInt = 59 := by decide
    have kc2 : ((0 : Int32)).toInt = 0 := by decide
    have kc3 : ((1 : Int32)).toInt = 1 := by decide
    have kc4 : ((Int32.ofInt 1)).toInt = 1 := by decide
    have kz := sy_z0
    refine hq_F.st (s' := (51, _, _, _)) hg191_50 rfl rfl rfl (hs_iln g2) ?_
    refine hq_F.st (s' := (54, _, _, _)) hg191_51 rfl rfl rfl (hs_ifn (t := 63) (ci_eqn (by omega)) rfl) ?_
    refine hq_F.st (s' := (55, _, _, _)) hg191_54 rfl rfl rfl (hs_al g0) ?_
    refine hq_F.st (s' := (57, _, _, _)) hg191_55 rfl rfl rfl rfl ?_
    refine hq_F.call hg191_57 rfl rfl si_11_175 (by decide) (by decide) sz_179 (sy_argsV h.1 sh_61 rfl rfl rfl (Nat.le_of_ble_eq_true rfl) rfl (Nat.le_of_ble_eq_true rfl) rfl (by decide)) (mt_isS (c := 59) h (by decide)) (fun _ _ q => by rw [q.1]) ?_
    rintro r57 w ⟨rfl, rfl⟩
    try dsimp only
    by_cases hsc : σ.1.1 = 4 ∧ σ.1.2.2.1 = 59
    · rw [decide_eq_true hsc, show tq_b true = (1 : Int32) from rfl]
      refine hq_F.st (s' := (120, _, _, _)) hg191_60 rfl rfl rfl (hs_if (ci_ne (by omega)) rfl) ?_
      refine hq_F.st (s' := (121, _, _, _)) hg191_120 rfl rfl rfl (hs_al g0) ?_
      refine hq_F.st (s' := (124, _, _, _)) hg191_121 rfl rfl rfl (hq_gf h.1 sh_61 sk_11_37 (hq_ref h.1 sh_61 (b := 64) rfl)) ?_
      refine hq_F.st (s' := (126, _, _, _)) hg191_124 rfl rfl rfl rfl ?_
      refine hq_F.st (s' := (127, _, _, _)) hg191_126 rfl rfl rfl (hs_iln g1) ?_
      refine hq_F.st (s' := (128, _, _, _)) hg191_127 rfl rfl rfl rfl ?_
      refine hq_F.st (s' := (129, _, _, _)) hg191_128 rfl rfl rfl (hs_iln g2) ?_
      refine sy_isv hg191_129 h.1 sh_64 (n := 45 + m) (by rw [hn_k (n := m) hv_45]; exact hn_t (by omega)) (by omega) (sy_sr (sn_45 _ (by omega) (by omega)) (by omega) (by omega)) (fun w4 hC4 hw4 => ?_)
      have hL4 : ML w4 σ.2.1 σ.2.2.1 σ.2.2.2 := by
        have q := hL.put (c0 := 8) (k0 := m) (by decide) (by show m < 6; omega) hw4
        rw [ld_u_u, ld_u_id hn] at q
        exact q
      refine hq_F.st (s' := (131, _, _, _)) hg191_130 rfl rfl rfl rfl ?_
      refine hq_F.en hg191_131 rfl rfl ?_
      exact ⟨hC4, ml_w64 hw4 (by omega), Or.inl ⟨rfl, σ, by rw [ls_stops, if_pos (show ls_sc σ.1 = true from decide_eq_true hsc)], h.fr hC4 (wpF hw4) rfl, hL4⟩⟩
    · rw [decide_eq_false hsc, show tq_b false = (0 : Int32) from rfl]
      refine hq_F.st (s' := (63, _, _, _)) hg191_60 rfl rfl rfl (hs_ifn (t := 120) (ci_nen (by omega)) rfl) ?_
      refine ml_stop (d := d) (σ := σ) (m := m) (n := n) h hL ho m0 hm hn8 g0 g1 g2 (fun w5 lv5 σ1 e1 h5 hL5 F5 q8 k0 k1 k2 => ?_) (fun w5 k p hC5 F5 e1 q => ?_)
      · obtain ⟨hs, hn1, hs8⟩ := ls_stop_nt e1
        rw [show ls_stops tp B M m (f + 1) n σ = ls_stops tp B M m f (n + 1) σ1 from by rw [ls_stops, if_neg (show ¬ ls_sc σ.1 = true from fun q => hsc (of_decide_eq_true q)), e1, ls_br]]
        exact (ih (n + 1) (by omega) (by omega) (by omega) h5 hL5 (by rw [hs]; exact ho) (by rw [hs]; exact m0) hs8 k0 k1 k2).imp (fun r w9 q => q.tr F5)
      · exact ⟨hC5, F5, Or.inr ⟨rfl, k, p, by rw [ls_stops, if_neg (show ¬ ls_sc σ.1 = true from fun q => hsc (of_decide_eq_true q)), e1, ls_bl], q⟩⟩
theorem ml_round {d B M : Nat} {tp : Nat → Nat} {w : pi_W} {σ : ls_S} (hO : MO tp B M w σ) (hJ : ls_J σ) (h2t : 2 ≤ σ.1.1) : hq_F (d + 3) sm191 (ml_P tp B M (ls_round tp B M σ) w) (0, lv_args 0 [.ref 61], [], w) := by
  obtain ⟨t, A, nr, NT⟩ := σ
  obtain ⟨h, hL⟩ := hO
  obtain ⟨⟨ho, ⟨m0, m2, m3, m4⟩, mr, i3, i7⟩, j8⟩ := id hJ
  dsimp only at *
  have hL : MLx w A nr NT NT := hL
  have g0 : pi_get (lv_args 0 [.ref 61]) 0 = some (.ref 61) := rfl
  have kc0 : (((Int8.ofInt 45).toInt32)).toInt = 45 := by decide
  have kc1 : (((Int8.ofInt 48).toInt32)).toInt = 48 := by decide
  have kc2 : ((0 : Int32)).toInt = 0 := by decide
  have kc3 : ((1 : Int32)).toInt = 1 := by decide
  have kc4 : ((Int32.ofInt 0)).toInt = 0 := by decide
  have kc5 : ((Int32.ofInt 3)).toInt = 3 := by decide
  have kc6 : ((Int32.ofInt 4)).toInt = 4 := by decide
  have kz := sy_z0
  refine hq_F.st (s' := (1, _, _, _)) hg191_0 rfl rfl rfl (hs_al g0) ?_
  refine hq_F.call hg191_1 rfl rfl si_11_181 (by decide) (by decide) sz_176 (sy_argsV h.1 sh_61 rfl rfl rfl (Nat.le_of_ble_eq_true rfl) rfl (Nat.le_of_ble_eq_true rfl) rfl (by decide)) (mt_adv (d := d + 1) h h2t) (fun _ _ q => by rw [q.2.1.1.1, h.1.1]) ?_
  rintro r1 w1 ⟨rfl, h1, F1⟩
  try dsimp only
  have hL1 := hL.fr F1 (by decide) (by decide)
  refine hq_F.st (s' := (5, _, _, _)) hg191_4 rfl rfl rfl (hs_al g0) ?_
  refine hq_F.st (s' := (7, _, _, _)) hg191_5 rfl rfl rfl rfl ?_
  refine hq_F.st (s' := (8, _, _, _)) hg191_7 rfl rfl rfl (hs_al g0) ?_
  refine hq_F.st (s' := (11, _, _, _)) hg191_8 rfl rfl rfl (hq_gf h1.1 sh_61 sk_11_37 (hq_ref h1.1 sh_61 (b := 64) rfl)) ?_
  refine hq_F.st (s' := (12, _, _, _)) hg191_11 rfl rfl rfl rfl ?_
  refine hq_F.st (s' := (13, _, _, _)) hg191_12 rfl rfl rfl (sy_iav h1.1 sh_64 (n := 4) (by decide) (by decide)) ?_
  refine hq_F.call hg191_13 rfl rfl si_11_203 (by decide) (by decide) sz_186 (sy_argsV h1.1 sh_61 rfl rfl rfl (Nat.le_of_ble_eq_true rfl) rfl (Nat.le_of_ble_eq_true rfl) rfl (by decide)) (mn_la (d := d + 1) (off := 27) (s := 4) h1 hL1.1 ho (by decide) (hL1.2.1 4 (by omega)) (by show 27 + 21 + nt_c 4 NT ≤ 54; omega)) (fun r w' q => by rcases q with ⟨_, _, _, q, _⟩ | ⟨_, q, _⟩; rw [q.1.1, h1.1.1]; rw [q.1.1, h1.1.1]) ?_
  rintro r13 w2 q
  try dsimp only
  rcases q with ⟨rfl, n2, f2, h2, F2, g2⟩ | ⟨rfl, h2, F2, q⟩
  · obtain ⟨a, ha, ea, la⟩ := ls_look_in ho (by omega) n2 g2 f2
    have ta : (Int32.ofNat a).toInt = (a : Int) := hn_t (by omega)
    have hL2 := hL1.fr F2 (by decide) (by decide)
    refine hq_F.st (s' := (21, _, _, _)) hg191_16 rfl rfl rfl (hs_if (ci_ne (by omega)) rfl) ?_
    refine hq_F.st (s' := (22, _, _, _)) hg191_21 rfl rfl rfl (hs_al g0) ?_
    refine hq_F.st (s' := (25, _, _, _)) hg191_22 rfl rfl rfl (hq_gf h2.1 sh_61 sk_11_188 (sy_v h2.1 (by decide) rfl)) ?_
    rw [show gv w2 61 18 = Int32.ofNat a from by exact ea]
    refine hq_F.st (s' := (26, _, _, _)) hg191_25 rfl rfl rfl rfl ?_
    refine hq_F.st (s' := (27, _, _, _)) hg191_26 rfl rfl rfl (hs_al (hg_nr g0 (by decide))) ?_
    refine hq_F.st (s' := (30, _, _, _)) hg191_27 rfl rfl rfl (hq_gf h2.1 sh_61 sk_11_37 (hq_ref h2.1 sh_61 (b := 64) rfl)) ?_
    refine hq_F.st (s' := (32, _, _, _)) hg191_30 rfl rfl rfl rfl ?_
    refine hq_F.st (s' := (33, _, _, _)) hg191_32 rfl rfl rfl (hs_iln (pi_get_set _ _ _)) ?_
    refine hq_F.st (s' := (34, _, _, _)) hg191_33 rfl rfl rfl rfl ?_
    refine hq_F.st (s' := (35, _, _, _)) hg191_34 rfl rfl rfl (sy_iav h2.1 sh_64 (n := 45 + a) (by rw [hn_k (n := a) hv_45]; exact hn_t (by omega)) (by omega)) ?_
    rw [show gv w2 64 (45 + a) = A 8 a from (hL2.2.2.2.get (c := 8) (k := a) (by decide) (by show a < 6; omega))]
    by_cases b35 : ((A 8 a)).toInt ≤ 0
    · skip
      refine hq_F.st (s' := (44, _, _, _)) hg191_35 rfl rfl rfl (hs_if (ci_le (by omega)) rfl) ?_
      refine hq_F.st (s' := (45, _, _, _)) hg191_44 rfl rfl rfl (hs_al (hg_nr g0 (by decide))) ?_
      refine hq_F.call hg191_45 rfl rfl si_11_181 (by decide) (by decide) sz_176 (sy_argsV h2.1 sh_61 rfl rfl rfl (Nat.le_of_ble_eq_true rfl) rfl (Nat.le_of_ble_eq_true rfl) rfl (by decide)) (mt_adv (d := d + 1) h2 (by have := n2.1; omega)) (fun _ _ q => by rw [q.2.1.1.1, h2.1.1]) ?_
      rintro r45 w3 ⟨rfl, h3, F3⟩
      try dsimp only
      refine hq_F.st (s' := (49, _, _, _)) hg191_48 rfl rfl rfl rfl ?_
      refine hq_F.st (s' := (50, _, _, _)) hg191_49 rfl rfl rfl rfl ?_
      have q0 : (Int32.ofNat 0).toInt = 0 := by decide
      have hz : A 8 a = 0 := Int32.toInt_inj.mp (by have := j8 a; show (A 8 a).toInt = (Int32.ofNat 0).toInt; rw [q0]; omega)
      have hF3 : af_Fr ml_N w w3 := (F1.cov (by decide)).tr ((F2.cov (by decide)).tr (F3.cov (by decide)))
      refine hq_F.st (s' := (51, _, _, _)) hg191_50 rfl rfl rfl (hs_iln (pi_get_set _ _ _)) ?_
      refine hq_F.st (s' := (63, _, _, _)) hg191_51 rfl rfl rfl (hs_if (ci_eq (by omega)) rfl) ?_
      refine ml_stop (d := d) (σ := ((tq_nx tp B M (tq_nx tp B M t)), A, nr, NT)) (m := a) (n := 0) h3 (by show MLx w3 (ld_u A 8 a 0) nr NT NT; rw [ld_u_id hz]; exact hL2.fr F3 (by decide) (by decide)) ho m0 (by omega) (by omega) (hg_nr (hg_nr g0 (by decide)) (by decide)) (hg_ne (pi_get_set _ _ _) (by decide)) ((pi_get_set _ _ _)) (fun w5 lv5 σ1 e1 h5 hL5 F5 q8 k0 k1 k2 => ?_) (fun w5 k p hC5 F5 e1 q => ?_)
      · obtain ⟨hs, hn1, hs8⟩ := ls_stop_nt e1
        have eR : ls_round tp B M (t, A, nr, NT) = ls_stops tp B M a 9 1 σ1 := by show ls_b (ls_look 4 (tq_nx tp B M t) NT) _ = _; rw [la, ls_br]; show (if 0 < (A 8 a).toInt then _ else _) = _; rw [if_neg (by omega)]; show ls_b (ls_stop tp B M a 0 ((tq_nx tp B M (tq_nx tp B M t)), A, nr, NT)) _ = _; rw [e1]; exact ls_br _ _
        rw [eR]
        exact (ml_stl (d := d) (by omega) 9 1 (by omega) (by omega) (by omega) h5 hL5 (by rw [hs]; exact ho) (by rw [hs]; exact m0) hs8 k0 k1 k2).imp (fun r w9 q => q.tr (hF3.tr F5))
      · exact ⟨hC5, hF3.tr F5, Or.inr ⟨rfl, k, p, by show ls_b (ls_look 4 (tq_nx tp B M t) NT) _ = _; rw [la, ls_br]; show (if 0 < (A 8 a).toInt then _ else _) = _; rw [if_neg (by omega)]; show ls_b (ls_stop tp B M a 0 ((tq_nx tp B M (tq_nx tp B M t)), A, nr, NT)) _ = _; rw [e1]; rfl, q⟩⟩
    · skip
      refine hq_F.st (s' := (38, _, _, _)) hg191_35 rfl rfl rfl (hs_ifn (t := 44) (ci_len (by omega)) rfl) ?_
      refine hq_F.st (s' := (39, _, _, _)) hg191_38 rfl rfl rfl (hs_al (hg_nr g0 (by decide))) ?_
      refine hq_F.st (s' := (40, _, _, _)) hg191_39 rfl rfl rfl rfl ?_
      refine hq_F.call hg191_40 rfl rfl si_11_178 (by decide) (by decide) sz_177 (sy_argsV h2.1 sh_61 rfl rfl rfl (Nat.le_of_ble_eq_true rfl) rfl (Nat.le_of_ble_eq_true rfl) rfl (by decide)) (mt_bad h2 ((Int32.ofInt 3))) (fun _ _ q => by rw [q.2.1.1.1, h2.1.1]) ?_
      rintro r40 w9 ⟨rfl, k1, k2, k3, k4⟩
      try dsimp only
      refine hq_F.en hg191_43 rfl rfl ?_
      exact ⟨k1.1, ((F1.cov (by decide)).tr (F2.cov (by decide))).tr (k2.cov (by decide)), Or.inr ⟨rfl, 3, (tq_nx tp B M t).2.1, by show ls_b (ls_look 4 (tq_nx tp B M t) NT) _ = _; rw [la, ls_br]; exact if_pos (by show 0 < (A 8 a).toInt; omega), by rw [k3]; decide, k4⟩⟩
  · skip
    refine hq_F.st (s' := (19, _, _, _)) hg191_16 rfl rfl rfl (hs_ifn (t := 21) (ci_nen (by omega)) rfl) ?_
    refine hq_F.st (s' := (20, _, _, _)) hg191_19 rfl rfl rfl rfl ?_
    refine hq_F.en hg191_20 rfl rfl ?_
    rcases q with ⟨q1, q2⟩ | ⟨q1, q2, q3⟩
    · exact ⟨h2.1, (F1.cov (by decide)).tr (F2.cov (by decide)), Or.inr ⟨rfl, 1, (tq_nx tp B M t).2.1, by show ls_b (ls_look 4 (tq_nx tp B M t) NT) _ = _; rw [ls_look_1 q1]; rfl, q2⟩⟩
    · exact ⟨h2.1, (F1.cov (by decide)).tr (F2.cov (by decide)), Or.inr ⟨rfl, 3, (tq_nx tp B M t).2.1, by show ls_b (ls_look 4 (tq_nx tp B M t) NT) _ = _; rw [ls_look_3 q1 q2]; rfl, q3⟩⟩
theorem sy_zz {x : Int32} (h : x.toInt = 0) : x = 0 := Int32.toInt_inj.mp (by rw [h]; decide)
def nt_pop (n : Nat) : Nat := n % 2 + n / 2 % 2 + n / 4 % 2 + n / 8 % 2 + n / 16 % 2
theorem nt_or : ∀ n, n < 32 → ∀ d, d < 5 → ls_bit (Int32.ofNat n) d = false → ls_or (Int32.ofNat n) d = Int32.ofNat (n ||| 2 ^ d) ∧ nt_pop (n ||| 2 ^ d) = nt_pop n + 1 ∧ n ||| 2 ^ d < 32 ∧ 0 < n ||| 2 ^ d := by decide +kernel
theorem ls_deed_A {tp : Nat → Nat} {B M l n : Nat} {σ σ1 : ls_S} (ho : nt_ok σ.2.2.2) (m2 : nt_c 2 σ.2.2.2 ≤ 5) (hn : σ.2.1 3 l = Int32.ofNat n) (h32 : n < 32) (h : ls_deed tp B M l σ = .inr σ1) : ∃ n', σ1.2.1 3 l = Int32.ofNat n' ∧ n' < 32 ∧ nt_pop n' = nt_pop n + 1 ∧ 0 < n' := by
  obtain ⟨t, A, nr, NT⟩ := σ
  obtain ⟨a, ha, h⟩ := ls_b_in h
  have la := ls_look_lt ho ha
  dsimp only at h la hn m2
  split at h
  · cases h
  · rename_i q
    cases h
    rw [hn] at q
    obtain ⟨e1, e2, e3, e4⟩ := nt_or n h32 a (by omega) (Bool.of_not_eq_true q)
    exact ⟨n ||| 2 ^ a, by show (if 3 = 3 ∧ l = l then _ else _) = _; rw [if_pos ⟨rfl, rfl⟩, hn, e1], e3, e2, e4⟩
theorem ml_deed {d B M l : Nat} {tp : Nat → Nat} {w : pi_W} {σ : ls_S} {NC : List nt_E} {lv : pi_L} {Q : Option Value → pi_W → Prop} (h : MT tp B M w σ.1) (hL : MLx w σ.2.1 σ.2.2.1 σ.2.2.2 NC) (hc2 : nt_c 2 NC = nt_c 2 σ.2.2.2) (ho : nt_ok σ.2.2.2) (m2 : nt_c 2 σ.2.2.2 ≤ 5) (hl : l < 6) (g0 : pi_get lv 0 = some (.ref 61)) (g2 : pi_get lv 2 = some (.int (Int32.ofNat l)))
    (hgo : ∀ w' lv' σ1, ls_deed tp B M l σ = .inr σ1 → MT tp B M w' σ1.1 → MLx w' σ1.2.1 σ1.2.2.1 σ1.2.2.2 NC → af_Fr ml_N w w' → pi_get lv' 0 = some (.ref 61) → pi_get lv' 2 = some (.int (Int32.ofNat l)) → hq_F (d + 4) sm190 Q (143, lv', [], w'))
    (hbad : ∀ w' k p, af_Conf aw_Sh w' → af_Fr ml_N w w' → ls_deed tp B M l σ = .inl (k, p) → FM w' k p → Q (some (.int 0)) w') : hq_F (d + 4) sm190 Q (164, lv, [], w) := by
  obtain ⟨t, A, nr, NT⟩ := σ
  dsimp only at *
  have kc0 : (((Int8.ofInt 21).toInt32)).toInt = 21 := by decide
  have kc1 : (((Int8.ofInt 37).toInt32)).toInt = 37 := by decide
  have kc2 : ((0 : Int32)).toInt = 0 := by decide
  have kc3 : ((1 : Int32)).toInt = 1 := by decide
  have kc4 : ((Int32.ofInt 0)).toInt = 0 := by decide
  have kc5 : ((Int32.ofInt 1)).toInt = 1 := by decide
  have kc6 : ((Int32.ofInt 2)).toInt = 2 := by decide
  have kc7 : ((Int32.ofInt 3)).toInt = 3 := by decide
  have kz := sy_z0
  refine hq_F.st (s' := (165, _, _, _)) hg190_164 rfl rfl rfl (hs_al g0) ?_
  refine hq_F.st (s' := (167, _, _, _)) hg190_165 rfl rfl rfl rfl ?_
  refine hq_F.st (s' := (168, _, _, _)) hg190_167 rfl rfl rfl (hs_al g0) ?_
  refine hq_F.st (s' := (171, _, _, _)) hg190_168 rfl rfl rfl (hq_gf h.1 sh_61 sk_11_37 (hq_ref h.1 sh_61 (b := 64) rfl)) ?_
  refine hq_F.st (s' := (172, _, _, _)) hg190_171 rfl rfl rfl rfl ?_
  refine hq_F.st (s' := (173, _, _, _)) hg190_172 rfl rfl rfl (sy_iav h.1 sh_64 (n := 2) (by decide) (by decide)) ?_
  refine hq_F.call hg190_173 rfl rfl si_11_203 (by decide) (by decide) sz_186 (sy_argsV h.1 sh_61 rfl rfl rfl (Nat.le_of_ble_eq_true rfl) rfl (Nat.le_of_ble_eq_true rfl) rfl (by decide)) (mn_la (d := d + 2) (off := 27) (s := 2) h hL.1 ho (by decide) (by rw [hL.2.1 2 (by omega), hc2]) (by show 27 + 10 + nt_c 2 NT ≤ 54; omega)) (fun r w' q => by rcases q with ⟨_, _, _, q, _⟩ | ⟨_, q, _⟩; rw [q.1.1, h.1.1]; rw [q.1.1, h.1.1]) ?_
  rintro r173 w3 q
  try dsimp only
  rcases q with ⟨rfl, n3, f3, h3, F3, g3⟩ | ⟨rfl, h3, F3, q⟩
  · obtain ⟨b, hb, eb, lb⟩ := ls_look_in ho (by omega) n3 g3 f3
    have tb : (Int32.ofNat b).toInt = (b : Int) := hn_t (by omega)
    have hL3 := hL.fr F3 (by decide) (by decide)
    refine hq_F.st (s' := (181, _, _, _)) hg190_176 rfl rfl rfl (hs_if (ci_ne (by omega)) rfl) ?_
    refine hq_F.st (s' := (182, _, _, _)) hg190_181 rfl rfl rfl (hs_al g0) ?_
    refine hq_F.st (s' := (185, _, _, _)) hg190_182 rfl rfl rfl (hq_gf h3.1 sh_61 sk_11_37 (hq_ref h3.1 sh_61 (b := 64) rfl)) ?_
    refine hq_F.st (s' := (187, _, _, _)) hg190_185 rfl rfl rfl rfl ?_
    refine hq_F.st (s' := (188, _, _, _)) hg190_187 rfl rfl rfl (hs_iln g2) ?_
    refine hq_F.st (s' := (189, _, _, _)) hg190_188 rfl rfl rfl rfl ?_
    refine hq_F.st (s' := (190, _, _, _)) hg190_189 rfl rfl rfl (sy_iav h3.1 sh_64 (n := 21 + l) (by rw [hn_k (n := l) hv_21]; exact hn_t (by omega)) (by omega)) ?_
    rw [show gv w3 64 (21 + l) = A 3 l from (hL3.2.2.2.get (c := 3) (k := l) (by decide) (by show l < 6; omega))]
    refine hq_F.st (s' := (191, _, _, _)) hg190_190 rfl rfl rfl (hs_al g0) ?_
    refine hq_F.st (s' := (194, _, _, _)) hg190_191 rfl rfl rfl (hq_gf h3.1 sh_61 sk_11_188 (sy_v h3.1 (by decide) rfl)) ?_
    rw [show gv w3 61 18 = Int32.ofNat b from by exact eb]
    refine hq_F.call hg190_194 rfl rfl si_11_229 (by decide) (by decide) sz_168 (sy_argsS rfl rfl rfl (Nat.le_of_ble_eq_true rfl) (by decide) rfl (Nat.le_of_ble_eq_true rfl) (by decide)) (ml_bit (k := b)) (fun _ _ q => by rw [q.1]) ?_
    rintro r194 w3 ⟨rfl, rfl⟩
    try dsimp only
    cases hbit : ls_bit (A 3 l) b
    · rw [show tq_b false = (0 : Int32) from rfl]
      refine hq_F.st (s' := (206, _, _, _)) hg190_197 rfl rfl rfl (hs_if (ci_eq (by omega)) rfl) ?_
      refine hq_F.st (s' := (207, _, _, _)) hg190_206 rfl rfl rfl (hs_al g0) ?_
      refine hq_F.st (s' := (210, _, _, _)) hg190_207 rfl rfl rfl (hq_gf h3.1 sh_61 sk_11_37 (hq_ref h3.1 sh_61 (b := 64) rfl)) ?_
      refine hq_F.st (s' := (212, _, _, _)) hg190_210 rfl rfl rfl rfl ?_
      refine hq_F.st (s' := (213, _, _, _)) hg190_212 rfl rfl rfl (hs_iln g2) ?_
      refine hq_F.st (s' := (214, _, _, _)) hg190_213 rfl rfl rfl rfl ?_
      refine hq_F.st (s' := (215, _, _, _)) hg190_214 rfl rfl rfl rfl ?_
      refine hq_F.st (s' := (216, _, _, _)) hg190_215 rfl rfl rfl (sy_iav h3.1 sh_64 (n := 21 + l) (by rw [hn_k (n := l) hv_21]; exact hn_t (by omega)) (by omega)) ?_
      rw [show gv w3 64 (21 + l) = A 3 l from (hL3.2.2.2.get (c := 3) (k := l) (by decide) (by show l < 6; omega))]
      refine hq_F.st (s' := (217, _, _, _)) hg190_216 rfl rfl rfl rfl ?_
      refine hq_F.st (s' := (218, _, _, _)) hg190_217 rfl rfl rfl (hs_al g0) ?_
      refine hq_F.st (s' := (221, _, _, _)) hg190_218 rfl rfl rfl (hq_gf h3.1 sh_61 sk_11_188 (sy_v h3.1 (by decide) rfl)) ?_
      rw [show gv w3 61 18 = Int32.ofNat b from by exact eb]
      refine hq_F.st (s' := (222, _, _, _)) hg190_221 rfl rfl rfl rfl ?_
      refine hq_F.st (s' := (223, _, _, _)) hg190_222 rfl rfl rfl rfl ?_
      refine sy_isv hg190_223 h3.1 sh_64 (n := 21 + l) (by rw [hn_k (n := l) hv_21]; exact hn_t (by omega)) (by omega) (sy_full (sn_5 _ (by omega) (by omega))) (fun w4 hC4 hw4 => ?_)
      have hT4 := h3.fr hC4 (wpF hw4) rfl
      have hL4 := hL3.put (c0 := 3) (k0 := l) (by decide) (by show l < 6; omega) hw4
      refine hq_F.st (s' := (225, _, _, _)) hg190_224 rfl rfl rfl (hs_al g0) ?_
      refine hq_F.call hg190_225 rfl rfl si_11_181 (by decide) (by decide) sz_176 (sy_argsV hC4 sh_61 rfl rfl rfl (Nat.le_of_ble_eq_true rfl) rfl (Nat.le_of_ble_eq_true rfl) rfl (by decide)) (mt_adv (d := d + 2) hT4 (by have := n3.1; omega)) (fun _ _ q => by rw [q.2.1.1.1, hC4.1]) ?_
      rintro r225 w5 ⟨rfl, h5, F5⟩
      try dsimp only
      refine hq_F.st (s' := (143, _, _, _)) hg190_228 rfl rfl rfl rfl ?_
      exact hgo w5 _ (tq_nx tp B M t, ld_u A 3 l (ls_or (A 3 l) b), nr, NT) (by show ls_b (ls_look 2 t NT) _ = _; rw [lb, ls_br]; exact if_neg (fun q => by rw [hbit] at q; cases q)) h5 (hL4.fr F5 (by decide) (by decide)) ((F3.cov (by decide)).tr ((ml_w64 hw4 (by omega)).tr (F5.cov (by decide)))) g0 g2
    · rw [show tq_b true = (1 : Int32) from rfl]
      refine hq_F.st (s' := (200, _, _, _)) hg190_197 rfl rfl rfl (hs_ifn (t := 206) (ci_eqn (by omega)) rfl) ?_
      refine hq_F.st (s' := (201, _, _, _)) hg190_200 rfl rfl rfl (hs_al g0) ?_
      refine hq_F.st (s' := (202, _, _, _)) hg190_201 rfl rfl rfl rfl ?_
      refine hq_F.call hg190_202 rfl rfl si_11_178 (by decide) (by decide) sz_177 (sy_argsV h3.1 sh_61 rfl rfl rfl (Nat.le_of_ble_eq_true rfl) rfl (Nat.le_of_ble_eq_true rfl) rfl (by decide)) (mt_bad h3 ((Int32.ofInt 3))) (fun _ _ q => by rw [q.2.1.1.1, h3.1.1]) ?_
      rintro r202 w9 ⟨rfl, k1, k2, k3, k4⟩
      try dsimp only
      refine hq_F.en hg190_205 rfl rfl ?_
      exact hbad w9 3 t.2.1 k1.1 ((F3.cov (by decide)).tr (k2.cov (by decide))) (by show ls_b (ls_look 2 t NT) _ = _; rw [lb, ls_br]; exact if_pos hbit) ⟨by rw [k3]; decide, k4⟩
  · skip
    refine hq_F.st (s' := (179, _, _, _)) hg190_176 rfl rfl rfl (hs_ifn (t := 181) (ci_nen (by omega)) rfl) ?_
    refine hq_F.st (s' := (180, _, _, _)) hg190_179 rfl rfl rfl rfl ?_
    refine hq_F.en hg190_180 rfl rfl ?_
    rcases q with ⟨q1, q2⟩ | ⟨q1, q2, q3⟩
    · exact hbad w3 1 t.2.1 h3.1 (F3.cov (by decide)) (by show ls_b (ls_look 2 t NT) _ = _; rw [ls_look_1 q1]; rfl) q2
    · exact hbad w3 3 t.2.1 h3.1 (F3.cov (by decide)) (by show ls_b (ls_look 2 t NT) _ = _; rw [ls_look_3 q1 q2]; rfl) q3
theorem ml_dsl {d B M l : Nat} {tp : Nat → Nat} {NC : List nt_E} {u : List Nat} (hl : l < 6) (hl3 : nt_c 3 NC = l) : ∀ (f n : Nat) {w : pi_W} {σ : ls_S} {lv : pi_L}, nt_pop n + f = 6 → n < 32 → 0 < n → MT tp B M w σ.1 → MLx w σ.2.1 σ.2.2.1 σ.2.2.2 NC → nt_c 2 NC = nt_c 2 σ.2.2.2 → nt_ok σ.2.2.2 → nt_c 2 σ.2.2.2 ≤ 5 → σ.2.1 3 l = Int32.ofNat n → σ.2.2.2 = NC ++ [(3, nt_c 3 NC, u)] → pi_get lv 0 = some (.ref 61) → pi_get lv 2 = some (.int (Int32.ofNat l)) → hq_F (d + 4) sm190 (ml_P tp B M (ls_deeds tp B M l f σ) w) (143, lv, [], w) := by
  intro f
  induction f with
  | zero =>
    intro n w σ lv hp h32
    exfalso
    unfold nt_pop at hp
    omega
  | succ f ih =>
    intro n w σ lv hp h32 hn0 h hL hc2 ho m2 hn hNT g0 g2
    have tn : (Int32.ofNat n).toInt = (n : Int) := hn_t (by omega)
    have tl : (Int32.ofNat l).toInt = (l : Int) := hn_t (by omega)
    have kc0 : (((Int8.ofInt 21).toInt32)).toInt = 21 := by decide
    have kc1 : (((Int8.ofInt 59).toInt32)).toInt = 59 := by decide
    have kc2 : ((0 : Int32)).toInt = 0 := by decide
    have kc3 : ((1 : Int32)).toInt = 1 := by decide
    have kc4 : ((Int32.ofInt 1)).toInt = 1 := by decide
    have kc5 : ((Int32.ofInt 3)).toInt = 3 := by decide
    have kz := sy_z0
    refine hq_F.st (s' := (144, _, _, _)) hg190_143 rfl rfl rfl (hs_al g0) ?_
    refine hq_F.st (s' := (147, _, _, _)) hg190_144 rfl rfl rfl (hq_gf h.1 sh_61 sk_11_37 (hq_ref h.1 sh_61 (b := 64) rfl)) ?_
    refine hq_F.st (s' := (149, _, _, _)) hg190_147 rfl rfl rfl rfl ?_
    refine hq_F.st (s' := (150, _, _, _)) hg190_149 rfl rfl rfl (hs_iln g2) ?_
    refine hq_F.st (s' := (151, _, _, _)) hg190_150 rfl rfl rfl rfl ?_
    refine hq_F.st (s' := (152, _, _, _)) hg190_151 rfl rfl rfl (sy_iav h.1 sh_64 (n := 21 + l) (by rw [hn_k (n := l) hv_21]; exact hn_t (by omega)) (by omega)) ?_
    rw [show gv w 64 (21 + l) = Int32.ofNat n from ((hL.2.2.2.get (c := 3) (k := l) (by decide) (by show l < 6; omega)).trans hn)]
    refine hq_F.st (s' := (155, _, _, _)) hg190_152 rfl rfl rfl (hs_ifn (t := 164) (ci_eqn (by omega)) rfl) ?_
    refine hq_F.st (s' := (156, _, _, _)) hg190_155 rfl rfl rfl (hs_al g0) ?_
    refine hq_F.st (s' := (158, _, _, _)) hg190_156 rfl rfl rfl rfl ?_
    refine hq_F.call hg190_158 rfl rfl si_11_175 (by decide) (by decide) sz_179 (sy_argsV h.1 sh_61 rfl rfl rfl (Nat.le_of_ble_eq_true rfl) rfl (Nat.le_of_ble_eq_true rfl) rfl (by decide)) (mt_isS (c := 59) h (by decide)) (fun _ _ q => by rw [q.1]) ?_
    rintro r158 w ⟨rfl, rfl⟩
    try dsimp only
    by_cases hsc : σ.1.1 = 4 ∧ σ.1.2.2.1 = 59
    · rw [decide_eq_true hsc, show tq_b true = (1 : Int32) from rfl]
      refine hq_F.st (s' := (231, _, _, _)) hg190_161 rfl rfl rfl (hs_if (ci_ne (by omega)) rfl) ?_
      refine hq_F.st (s' := (232, _, _, _)) hg190_231 rfl rfl rfl (hs_al g0) ?_
      refine hq_F.st (s' := (235, _, _, _)) hg190_232 rfl rfl rfl (hq_gf h.1 sh_61 sk_11_37 (hq_ref h.1 sh_61 (b := 64) rfl)) ?_
      refine hq_F.st (s' := (236, _, _, _)) hg190_235 rfl rfl rfl rfl ?_
      refine hq_F.st (s' := (237, _, _, _)) hg190_236 rfl rfl rfl rfl ?_
      refine hq_F.st (s' := (238, _, _, _)) hg190_237 rfl rfl rfl (sy_iav h.1 sh_64 (n := 3) (by decide) (by decide)) ?_
      rw [show gv w 64 (3) = Int32.ofNat l from (hn_e (by rw [hL.2.1 3 (by omega), hl3]) (by omega))]
      refine hq_F.st (s' := (239, _, _, _)) hg190_238 rfl rfl rfl rfl ?_
      refine hq_F.st (s' := (240, _, _, _)) hg190_239 rfl rfl rfl rfl ?_
      rw [hn_s]
      have tl1 : (Int32.ofNat (l + 1)).toInt = ((l + 1 : Nat) : Int) := hn_t (by omega)
      refine sy_isv hg190_240 h.1 sh_64 (n := 3) (by decide) (by decide) (sy_sr sn_3 (by omega) (by omega)) (fun w4 hC4 hw4 => ?_)
      have hL4 : ML w4 σ.2.1 σ.2.2.1 σ.2.2.2 := by
        have q := hL
        rw [hNT] at q ⊢
        exact q.cnt (by omega) hw4 (by rw [tl1, hl3])
      refine hq_F.st (s' := (242, _, _, _)) hg190_241 rfl rfl rfl rfl ?_
      refine hq_F.en hg190_242 rfl rfl ?_
      exact ⟨hC4, ml_w64 hw4 (by omega), Or.inl ⟨rfl, σ, by rw [ls_deeds, if_pos (show ls_sc σ.1 = true from decide_eq_true hsc)], h.fr hC4 (wpF hw4) rfl, hL4⟩⟩
    · rw [decide_eq_false hsc, show tq_b false = (0 : Int32) from rfl]
      refine hq_F.st (s' := (164, _, _, _)) hg190_161 rfl rfl rfl (hs_ifn (t := 231) (ci_nen (by omega)) rfl) ?_
      refine ml_deed (d := d) (σ := σ) (l := l) h hL hc2 ho m2 hl g0 g2 (fun w5 lv5 σ1 e1 h5 hL5 F5 k0 k2 => ?_) (fun w5 k p hC5 F5 e1 q => ?_)
      · have hs := ls_deed_nt e1
        obtain ⟨n', a1, a2, a3, a4⟩ := ls_deed_A ho m2 hn h32 e1
        rw [show ls_deeds tp B M l (f + 1) σ = ls_deeds tp B M l f σ1 from by rw [ls_deeds, if_neg (show ¬ ls_sc σ.1 = true from fun q => hsc (of_decide_eq_true q)), e1, ls_br]]
        exact (ih n' (by omega) a2 a4 h5 hL5 (by rw [hs]; exact hc2) (by rw [hs]; exact ho) (by rw [hs]; exact m2) a1 (by rw [hs]; exact hNT) k0 k2).imp (fun r w9 q => q.tr F5)
      · exact ⟨hC5, F5, Or.inr ⟨rfl, k, p, by rw [ls_deeds, if_neg (show ¬ ls_sc σ.1 = true from fun q => hsc (of_decide_eq_true q)), e1, ls_bl], q⟩⟩
theorem ml_f66 {w w' : pi_W} {b : Nat} (h : af_Fr [(61, 4, 5), (61, 11, 15), (61, 17, 18), (66, b, b + 1)] w w') (hb : 27 ≤ b ∧ b < 54) : af_Fr ml_N w w' := hq_fr h (fun c i hc => by
  unfold af_cov at hc
  unfold ml_N af_cov
  simp only [List.any_cons, List.any_nil, Bool.or_false, Bool.or_eq_true, Bool.and_eq_true, beq_iff_eq, Nat.ble_eq, Nat.blt_eq] at hc ⊢
  omega)
theorem ml_law {d B M : Nat} {tp : Nat → Nat} {w : pi_W} {σ : ls_S} (hO : MO tp B M w σ) (hJ : ls_J σ) (h2t : 2 ≤ σ.1.1) : hq_F (d + 4) sm190 (ml_P tp B M (ls_law tp B M σ) w) (0, lv_args 0 [.ref 61, .int 0], [], w) := by
  obtain ⟨t, A, nr, NT⟩ := σ
  obtain ⟨h, hL⟩ := hO
  obtain ⟨⟨ho, ⟨m0, m2, m3, m4⟩, mr, i3, i7⟩, j8⟩ := id hJ
  dsimp only at *
  have hL : MLx w A nr NT NT := hL
  have tl : (Int32.ofNat (nt_c 3 NT)).toInt = (nt_c 3 NT : Int) := hn_t (by omega)
  have g0 : pi_get (lv_args 0 [.ref 61, .int 0]) 0 = some (.ref 61) := rfl
  have g1 : pi_get (lv_args 0 [.ref 61, .int 0]) 1 = some (.int 0) := rfl
  have kc0 : (((Int8.ofInt 15).toInt32)).toInt = 15 := by decide
  have kc1 : (((Int8.ofInt 21).toInt32)).toInt = 21 := by decide
  have kc2 : (((Int8.ofInt 27).toInt32)).toInt = 27 := by decide
  have kc3 : (((Int8.ofInt 30).toInt32)).toInt = 30 := by decide
  have kc4 : (((Int8.ofInt 42).toInt32)).toInt = 42 := by decide
  have kc5 : (((Int8.ofInt 6).toInt32)).toInt = 6 := by decide
  have kc6 : ((0 : Int32)).toInt = 0 := by decide
  have kc7 : ((1 : Int32)).toInt = 1 := by decide
  have kc8 : ((Int32.ofInt 0)).toInt = 0 := by decide
  have kc9 : ((Int32.ofInt 1)).toInt = 1 := by decide
  have kc10 : ((Int32.ofInt 3)).toInt = 3 := by decide
  have kc11 : ((Int32.ofInt 4)).toInt = 4 := by decide
  have kz := sy_z0
  refine hq_F.st (s' := (1, _, _, _)) hg190_0 rfl rfl rfl (hs_al g0) ?_
  refine hq_F.st (s' := (4, _, _, _)) hg190_1 rfl rfl rfl (hq_gf h.1 sh_61 sk_11_37 (hq_ref h.1 sh_61 (b := 64) rfl)) ?_
  refine hq_F.st (s' := (5, _, _, _)) hg190_4 rfl rfl rfl rfl ?_
  refine hq_F.st (s' := (6, _, _, _)) hg190_5 rfl rfl rfl (sy_iav h.1 sh_64 (n := 3) (by decide) (by decide)) ?_
  rw [show gv w 64 (3) = Int32.ofNat (nt_c 3 NT) from (hn_e (hL.2.1 3 (by omega)) (by omega))]
  refine hq_F.st (s' := (7, _, _, _)) hg190_6 rfl rfl rfl rfl ?_
  refine hq_F.st (s' := (8, _, _, _)) hg190_7 rfl rfl rfl (hs_iln (pi_get_set _ _ _)) ?_
  refine hq_F.st (s' := (10, _, _, _)) hg190_8 rfl rfl rfl rfl ?_
  by_cases b10 : ¬ ((Int32.ofNat (nt_c 3 NT))).toInt = 6
  · skip
    refine hq_F.st (s' := (19, _, _, _)) hg190_10 rfl rfl rfl (hs_ic (ci_ne (by omega)) rfl) ?_
    have hlt : nt_c 3 NT < nt_mx 3 := by show nt_c 3 NT < 6; omega
    refine hq_F.st (s' := (20, _, _, _)) hg190_19 rfl rfl rfl (hs_al (hg_nr g0 (by decide))) ?_
    refine hq_F.call hg190_20 rfl rfl si_11_181 (by decide) (by decide) sz_176 (sy_argsV h.1 sh_61 rfl rfl rfl (Nat.le_of_ble_eq_true rfl) rfl (Nat.le_of_ble_eq_true rfl) rfl (by decide)) (mt_adv (d := d + 2) h h2t) (fun _ _ q => by rw [q.2.1.1.1, h.1.1]) ?_
    rintro r20 w1 ⟨rfl, h1, F1⟩
    try dsimp only
    have hL1 : MLx w1 A nr NT NT := hL.fr F1 (by decide) (by decide)
    refine hq_F.st (s' := (24, _, _, _)) hg190_23 rfl rfl rfl (hs_al (hg_nr g0 (by decide))) ?_
    refine hq_F.st (s' := (26, _, _, _)) hg190_24 rfl rfl rfl rfl ?_
    refine hq_F.st (s' := (27, _, _, _)) hg190_26 rfl rfl rfl (hs_iln (pi_get_set _ _ _)) ?_
    refine hq_F.st (s' := (28, _, _, _)) hg190_27 rfl rfl rfl rfl ?_
    refine hq_F.call hg190_28 rfl rfl si_11_210 (by decide) (by decide) sz_185 (sy_argsV h1.1 sh_61 rfl rfl rfl (Nat.le_of_ble_eq_true rfl) rfl (Nat.le_of_ble_eq_true rfl) rfl (by decide)) (mn_fr (d := d + 1) (b := 42 + nt_c 3 NT) h1 hL1.1 ho hL1.2.1 ⟨m0, m2, m3, m4⟩ (hn_k hv_42) (by omega)) (fun r w' q => by rcases q with ⟨_, _, _, q, _⟩ | ⟨_, q, _⟩; rw [q.1.1, h1.1.1]; rw [q.1.1, h1.1.1]) ?_
    rintro r28 w2 q
    try dsimp only
    rcases q with ⟨rfl, n2, f2, h2, F2, g2⟩ | ⟨rfl, h2, F2, q⟩
    · have hL2 := hL1.fresh (s := 3) ho ⟨m0, m2, m3, m4⟩ (by omega) hlt (by show 42 + nt_c 3 NT = 27 + 15 + nt_c 3 NT; omega) F2 g2
      refine hq_F.st (s' := (34, _, _, _)) hg190_31 rfl rfl rfl (hs_ifn (t := 48) (ci_eqn (by omega)) rfl) ?_
      refine hq_F.st (s' := (35, _, _, _)) hg190_34 rfl rfl rfl (hs_al (hg_nr g0 (by decide))) ?_
      refine hq_F.st (s' := (37, _, _, _)) hg190_35 rfl rfl rfl rfl ?_
      refine hq_F.st (s' := (38, _, _, _)) hg190_37 rfl rfl rfl (hs_iln (pi_get_set _ _ _)) ?_
      refine hq_F.st (s' := (39, _, _, _)) hg190_38 rfl rfl rfl rfl ?_
      refine hq_F.st (s' := (40, _, _, _)) hg190_39 rfl rfl rfl rfl ?_
      refine hq_F.st (s' := (42, _, _, _)) hg190_40 rfl rfl rfl rfl ?_
      refine hq_F.call hg190_42 rfl rfl si_11_223 (by decide) (by decide) sz_183 (sy_argsV h2.1 sh_61 rfl rfl rfl (Nat.le_of_ble_eq_true rfl) rfl (Nat.le_of_ble_eq_true rfl) rfl (by decide)) (ml_puts (d := d) (n := 15 + nt_c 3 NT) h2 (by rw [hn_k (n := nt_c 3 NT) hv_15]; exact hn_t (by omega)) (by omega) (fun v q1 q2 => sy_full (sn_5 _ (by omega) (by omega)))) (fun r w' q => by rcases q with ⟨_, _, _, q, _⟩ | ⟨_, q, _⟩; rw [q.1.1, h2.1.1]; rw [q.1.1, h2.1.1]) ?_
      rintro r42 w3 q
      try dsimp only
      rcases q with ⟨rfl, n3, r3, h3, w30, v3, F30, e3, hw3⟩ | ⟨rfl, h3, F3, r3, q⟩
      · have hL3 := (hL2.fr F30 (by decide) (by decide)).put (c0 := 2) (k0 := nt_c 3 NT) (by decide) (by show nt_c 3 NT < 6; omega) hw3
        refine hq_F.st (s' := (50, _, _, _)) hg190_45 rfl rfl rfl (hs_if (ci_ne (by omega)) rfl) ?_
        refine hq_F.st (s' := (51, _, _, _)) hg190_50 rfl rfl rfl (hs_al (hg_nr g0 (by decide))) ?_
        refine hq_F.st (s' := (54, _, _, _)) hg190_51 rfl rfl rfl (hq_gf h3.1 sh_61 sk_11_37 (hq_ref h3.1 sh_61 (b := 64) rfl)) ?_
        refine hq_F.st (s' := (56, _, _, _)) hg190_54 rfl rfl rfl rfl ?_
        refine hq_F.st (s' := (57, _, _, _)) hg190_56 rfl rfl rfl (hs_iln (pi_get_set _ _ _)) ?_
        refine hq_F.st (s' := (58, _, _, _)) hg190_57 rfl rfl rfl rfl ?_
        refine hq_F.st (s' := (59, _, _, _)) hg190_58 rfl rfl rfl rfl ?_
        refine sy_isv hg190_59 h3.1 sh_64 (n := 21 + nt_c 3 NT) (by rw [hn_k (n := nt_c 3 NT) hv_21]; exact hn_t (by omega)) (by omega) (sy_full (sn_5 _ (by omega) (by omega))) (fun w5 hC5 hw5 => ?_)
        have hL5 := hL3.put (c0 := 3) (k0 := nt_c 3 NT) (by decide) (by show nt_c 3 NT < 6; omega) hw5
        refine hq_F.st (s' := (61, _, _, _)) hg190_60 rfl rfl rfl (hs_al (hg_nr g0 (by decide))) ?_
        refine hq_F.st (s' := (64, _, _, _)) hg190_61 rfl rfl rfl (hq_gf hC5 sh_61 sk_11_37 (hq_ref hC5 sh_61 (b := 64) rfl)) ?_
        refine hq_F.st (s' := (66, _, _, _)) hg190_64 rfl rfl rfl rfl ?_
        refine hq_F.st (s' := (67, _, _, _)) hg190_66 rfl rfl rfl (hs_iln (pi_get_set _ _ _)) ?_
        refine hq_F.st (s' := (68, _, _, _)) hg190_67 rfl rfl rfl rfl ?_
        refine hq_F.st (s' := (69, _, _, _)) hg190_68 rfl rfl rfl rfl ?_
        refine sy_isv hg190_69 hC5 sh_64 (n := 27 + nt_c 3 NT) (by rw [hn_k (n := nt_c 3 NT) hv_27]; exact hn_t (by omega)) (by omega) (sy_sr (sn_27 _ (by omega) (by omega)) (by omega) (by omega)) (fun w6 hC6 hw6 => ?_)
        have hL6 := hL5.put (c0 := 4) (k0 := nt_c 3 NT) (by decide) (by show nt_c 3 NT < 6; omega) hw6
        have hv3 : v3 = Int32.ofNat (tq_nx tp B M (tq_nx tp B M t)).2.2.1 := hn_e e3 (by omega)
        have hT6 := (h3.fr hC5 (wpF hw5) rfl).fr hC6 (wpF hw6) rfl
        have hF6 : af_Fr ml_N w w6 := (F1.cov (by decide)).tr ((ml_f66 F2 (by omega)).tr ((F30.cov (by decide)).tr ((ml_w64 hw3 (by omega)).tr ((ml_w64 hw5 (by omega)).tr (ml_w64 hw6 (by omega))))))
        have hL7 : MLx w6 (ld_u (ld_u (ld_u A 4 (nt_c 3 NT) 0) 2 (nt_c 3 NT) v3) 3 (nt_c 3 NT) 0) nr (NT ++ [(3, nt_c 3 NT, (tq_nx tp B M t).2.2.2.1)]) NT := by
          have q := hL6
          rw [ld_u_comm (c := 3) (c' := 4) (by decide), ld_u_comm (c := 2) (c' := 4) (by decide)] at q
          exact q
        have ho2 : nt_ok (NT ++ [(3, nt_c 3 NT, (tq_nx tp B M t).2.2.2.1)]) := nt_ok_app ho (by omega) (h1.2.2.2.2.2.2.2 n2.1) f2
        have hc22 : nt_c 2 (NT ++ [(3, nt_c 3 NT, (tq_nx tp B M t).2.2.2.1)]) = nt_c 2 NT := by rw [nt_c_app, if_neg (show ¬ 3 = 2 by decide)]; rfl
        have eh : ls_head tp B M ((tq_nx tp B M t), A, nr, NT) = .inr ((tq_nx tp B M (tq_nx tp B M (tq_nx tp B M t))), (ld_u (ld_u (ld_u A 4 (nt_c 3 NT) 0) 2 (nt_c 3 NT) v3) 3 (nt_c 3 NT) 0), nr, (NT ++ [(3, nt_c 3 NT, (tq_nx tp B M t).2.2.2.1)])) := by show ls_b (ls_new tp B M 3 ((tq_nx tp B M t), A, nr, NT)) _ = _; rw [ls_new_in n2 f2, ls_br]; show ls_b (ls_numb 1 30 (tq_nx tp B M (tq_nx tp B M t))) _ = _; rw [show ls_numb 1 30 (tq_nx tp B M (tq_nx tp B M t)) = .inr (tq_nx tp B M (tq_nx tp B M t)).2.2.1 from if_pos ⟨n3, by omega, by omega⟩, ls_br]; rw [hv3]
        refine hq_F.st (s' := (71, _, _, _)) hg190_70 rfl rfl rfl (hs_iln (hg_ne g1 (by decide))) ?_
        refine hq_F.st (s' := (143, _, _, _)) hg190_71 rfl rfl rfl (hs_if (ci_eq (by omega)) rfl) ?_
        have eL : ls_law tp B M (t, A, nr, NT) = ls_b (ls_deed tp B M (nt_c 3 NT) ((tq_nx tp B M (tq_nx tp B M (tq_nx tp B M t))), (ld_u (ld_u (ld_u A 4 (nt_c 3 NT) 0) 2 (nt_c 3 NT) v3) 3 (nt_c 3 NT) 0), nr, (NT ++ [(3, nt_c 3 NT, (tq_nx tp B M t).2.2.2.1)]))) (ls_deeds tp B M (nt_c 3 NT) 5) := by show ls_b (ls_more tp B M (nt_c 3 NT) 6 (t, A, nr, NT)) _ = _; rw [show ls_more tp B M (nt_c 3 NT) 6 (t, A, nr, NT) = .inr ((tq_nx tp B M t), A, nr, NT) from if_pos (by omega)]; rw [ls_br]; show ls_b (ls_head tp B M ((tq_nx tp B M t), A, nr, NT)) _ = _; rw [eh]; rfl
        rw [eL]
        have ha0 : (ld_u (ld_u (ld_u A 4 (nt_c 3 NT) 0) 2 (nt_c 3 NT) v3) 3 (nt_c 3 NT) 0) 3 (nt_c 3 NT) = Int32.ofNat 0 := if_pos ⟨rfl, rfl⟩
        refine hq_F.st (s' := (144, _, _, _)) hg190_143 rfl rfl rfl (hs_al (hg_nr g0 (by decide))) ?_
        refine hq_F.st (s' := (147, _, _, _)) hg190_144 rfl rfl rfl (hq_gf hC6 sh_61 sk_11_37 (hq_ref hC6 sh_61 (b := 64) rfl)) ?_
        refine hq_F.st (s' := (149, _, _, _)) hg190_147 rfl rfl rfl rfl ?_
        refine hq_F.st (s' := (150, _, _, _)) hg190_149 rfl rfl rfl (hs_iln (pi_get_set _ _ _)) ?_
        refine hq_F.st (s' := (151, _, _, _)) hg190_150 rfl rfl rfl rfl ?_
        refine hq_F.st (s' := (152, _, _, _)) hg190_151 rfl rfl rfl (sy_iav hC6 sh_64 (n := 21 + nt_c 3 NT) (by rw [hn_k (n := nt_c 3 NT) hv_21]; exact hn_t (by omega)) (by omega)) ?_
        rw [show gv w6 64 (21 + nt_c 3 NT) = Int32.ofNat 0 from ((hL7.2.2.2.get (c := 3) (k := nt_c 3 NT) (by decide) (by show nt_c 3 NT < 6; omega)).trans ha0)]
        refine hq_F.st (s' := (164, _, _, _)) hg190_152 rfl rfl rfl (hs_if (ci_eq (by decide)) rfl) ?_
        refine ml_deed (d := d) (σ := ((tq_nx tp B M (tq_nx tp B M (tq_nx tp B M t))), (ld_u (ld_u (ld_u A 4 (nt_c 3 NT) 0) 2 (nt_c 3 NT) v3) 3 (nt_c 3 NT) 0), nr, (NT ++ [(3, nt_c 3 NT, (tq_nx tp B M t).2.2.2.1)]))) (l := nt_c 3 NT) (NC := NT) hT6 hL7 hc22.symm ho2 (by show nt_c 2 (NT ++ [(3, nt_c 3 NT, (tq_nx tp B M t).2.2.2.1)]) ≤ 5; omega) (by omega) (hg_nr g0 (by decide)) (pi_get_set _ _ _) (fun w7 lv7 σ1 e1 h7 hL8 F7 k0 k2 => ?_) (fun w7 k p hC7 F7 e1 q => ?_)
        · have hs := ls_deed_nt e1
          obtain ⟨n', a1, a2, a3, a4⟩ := ls_deed_A (σ := ((tq_nx tp B M (tq_nx tp B M (tq_nx tp B M t))), (ld_u (ld_u (ld_u A 4 (nt_c 3 NT) 0) 2 (nt_c 3 NT) v3) 3 (nt_c 3 NT) 0), nr, (NT ++ [(3, nt_c 3 NT, (tq_nx tp B M t).2.2.2.1)]))) ho2 (by show nt_c 2 (NT ++ [(3, nt_c 3 NT, (tq_nx tp B M t).2.2.2.1)]) ≤ 5; omega) ha0 (by omega) e1
          rw [e1, ls_br]
          have p0 : nt_pop 0 = 0 := rfl
          exact (ml_dsl (d := d) (NC := NT) (u := (tq_nx tp B M t).2.2.2.1) (by omega) rfl 5 n' (by omega) a2 a4 h7 hL8 (by rw [hs]; exact hc22.symm) (by rw [hs]; exact ho2) (by rw [hs]; show nt_c 2 (NT ++ [(3, nt_c 3 NT, (tq_nx tp B M t).2.2.2.1)]) ≤ 5; omega) a1 (by rw [hs]) k0 k2).imp (fun r w9 q => q.tr (hF6.tr F7))
        · exact ⟨hC7, hF6.tr F7, Or.inr ⟨rfl, k, p, by rw [e1, ls_bl], q⟩⟩
      · skip
        refine hq_F.st (s' := (48, _, _, _)) hg190_45 rfl rfl rfl (hs_ifn (t := 50) (ci_nen (by omega)) rfl) ?_
        refine hq_F.st (s' := (49, _, _, _)) hg190_48 rfl rfl rfl rfl ?_
        refine hq_F.en hg190_49 rfl rfl ?_
        exact ⟨h3.1, (F1.cov (by decide)).tr ((ml_f66 F2 (by omega)).tr (F3.cov (by decide))), Or.inr ⟨rfl, (if (tq_nx tp B M (tq_nx tp B M t)).1 = 3 then 2 else 1), (tq_nx tp B M (tq_nx tp B M t)).2.1, by show ls_b (ls_more tp B M (nt_c 3 NT) 6 (t, A, nr, NT)) _ = _; rw [show ls_more tp B M (nt_c 3 NT) 6 (t, A, nr, NT) = .inr ((tq_nx tp B M t), A, nr, NT) from if_pos (by omega)]; rw [ls_br]; show ls_b (ls_head tp B M ((tq_nx tp B M t), A, nr, NT)) _ = _; rw [show ls_head tp B M ((tq_nx tp B M t), A, nr, NT) = .inl (if (tq_nx tp B M (tq_nx tp B M t)).1 = 3 then 2 else 1, (tq_nx tp B M (tq_nx tp B M t)).2.1) from by show ls_b (ls_new tp B M 3 ((tq_nx tp B M t), A, nr, NT)) _ = _; rw [ls_new_in n2 f2, ls_br]; show ls_b (ls_numb 1 30 (tq_nx tp B M (tq_nx tp B M t))) _ = _; rw [show ls_numb 1 30 (tq_nx tp B M (tq_nx tp B M t)) = .inl (if (tq_nx tp B M (tq_nx tp B M t)).1 = 3 then 2 else 1, (tq_nx tp B M (tq_nx tp B M t)).2.1) from if_neg (fun q => r3 ⟨q.1, by omega, by omega⟩)]; rfl]; rfl, q⟩⟩
    · skip
      refine hq_F.st (s' := (48, _, _, _)) hg190_31 rfl rfl rfl (hs_if (ci_eq (by omega)) rfl) ?_
      refine hq_F.st (s' := (49, _, _, _)) hg190_48 rfl rfl rfl rfl ?_
      refine hq_F.en hg190_49 rfl rfl ?_
      rcases q with ⟨q1, q2⟩ | ⟨q1, q2, q3⟩
      · exact ⟨h2.1, (F1.cov (by decide)).tr (F2.cov (by decide)), Or.inr ⟨rfl, 1, (tq_nx tp B M t).2.1, by show ls_b (ls_more tp B M (nt_c 3 NT) 6 (t, A, nr, NT)) _ = _; rw [show ls_more tp B M (nt_c 3 NT) 6 (t, A, nr, NT) = .inr ((tq_nx tp B M t), A, nr, NT) from if_pos (by omega)]; rw [ls_br]; show ls_b (ls_head tp B M ((tq_nx tp B M t), A, nr, NT)) _ = _; rw [show ls_head tp B M ((tq_nx tp B M t), A, nr, NT) = .inl (1, (tq_nx tp B M t).2.1) from by show ls_b (ls_new tp B M 3 ((tq_nx tp B M t), A, nr, NT)) _ = _; rw [ls_new_1 q1]; rfl]; rfl, q2⟩⟩
      · exact ⟨h2.1, (F1.cov (by decide)).tr (F2.cov (by decide)), Or.inr ⟨rfl, 3, (tq_nx tp B M t).2.1, by show ls_b (ls_more tp B M (nt_c 3 NT) 6 (t, A, nr, NT)) _ = _; rw [show ls_more tp B M (nt_c 3 NT) 6 (t, A, nr, NT) = .inr ((tq_nx tp B M t), A, nr, NT) from if_pos (by omega)]; rw [ls_br]; show ls_b (ls_head tp B M ((tq_nx tp B M t), A, nr, NT)) _ = _; rw [show ls_head tp B M ((tq_nx tp B M t), A, nr, NT) = .inl (3, (tq_nx tp B M t).2.1) from by show ls_b (ls_new tp B M 3 ((tq_nx tp B M t), A, nr, NT)) _ = _; rw [ls_new_3 q1 q2]; rfl]; rfl, q3⟩⟩
  · skip
    refine hq_F.st (s' := (13, _, _, _)) hg190_10 rfl rfl rfl (hs_icn (t := 19) (ci_nen (by omega)) rfl) ?_
    refine hq_F.st (s' := (14, _, _, _)) hg190_13 rfl rfl rfl (hs_al (hg_nr g0 (by decide))) ?_
    refine hq_F.st (s' := (15, _, _, _)) hg190_14 rfl rfl rfl rfl ?_
    refine hq_F.call hg190_15 rfl rfl si_11_178 (by decide) (by decide) sz_177 (sy_argsV h.1 sh_61 rfl rfl rfl (Nat.le_of_ble_eq_true rfl) rfl (Nat.le_of_ble_eq_true rfl) rfl (by decide)) (mt_bad h ((Int32.ofInt 4))) (fun _ _ q => by rw [q.2.1.1.1, h.1.1]) ?_
    rintro r15 w9 ⟨rfl, k1, k2, k3, k4⟩
    try dsimp only
    refine hq_F.en hg190_18 rfl rfl ?_
    exact ⟨k1.1, k2.cov (by decide), Or.inr ⟨rfl, 4, t.2.1, by show ls_b (ls_more tp B M (nt_c 3 NT) 6 (t, A, nr, NT)) _ = _; rw [show ls_more tp B M (nt_c 3 NT) 6 (t, A, nr, NT) = .inl (4, t.2.1) from if_neg (by omega)]; rfl, by rw [k3]; decide, k4⟩⟩
theorem ml_repeal {d B M : Nat} {tp : Nat → Nat} {w : pi_W} {σ : ls_S} (hO : MO tp B M w σ) (hJ : ls_J σ) (h2t : 2 ≤ σ.1.1) : hq_F (d + 4) sm190 (ml_P tp B M (ls_repeal tp B M σ) w) (0, lv_args 0 [.ref 61, .int 1], [], w) := by
  obtain ⟨t, A, nr, NT⟩ := σ
  obtain ⟨h, hL⟩ := hO
  obtain ⟨⟨ho, ⟨m0, m2, m3, m4⟩, mr, i3, i7⟩, j8⟩ := id hJ
  dsimp only at *
  have hL : MLx w A nr NT NT := hL
  have tl : (Int32.ofNat (nt_c 3 NT)).toInt = (nt_c 3 NT : Int) := hn_t (by omega)
  have g0 : pi_get (lv_args 0 [.ref 61, .int 1]) 0 = some (.ref 61) := rfl
  have g1 : pi_get (lv_args 0 [.ref 61, .int 1]) 1 = some (.int 1) := rfl
  have kc0 : (((Int8.ofInt 15).toInt32)).toInt = 15 := by decide
  have kc1 : (((Int8.ofInt 21).toInt32)).toInt = 21 := by decide
  have kc2 : (((Int8.ofInt 27).toInt32)).toInt = 27 := by decide
  have kc3 : (((Int8.ofInt 30).toInt32)).toInt = 30 := by decide
  have kc4 : (((Int8.ofInt 42).toInt32)).toInt = 42 := by decide
  have kc5 : (((Int8.ofInt 6).toInt32)).toInt = 6 := by decide
  have kc6 : ((0 : Int32)).toInt = 0 := by decide
  have kc7 : ((1 : Int32)).toInt = 1 := by decide
  have kc8 : ((Int32.ofInt 0)).toInt = 0 := by decide
  have kc9 : ((Int32.ofInt 1)).toInt = 1 := by decide
  have kc10 : ((Int32.ofInt 3)).toInt = 3 := by decide
  have kc11 : ((Int32.ofInt 4)).toInt = 4 := by decide
  have kz := sy_z0
  refine hq_F.st (s' := (1, _, _, _)) hg190_0 rfl rfl rfl (hs_al g0) ?_
  refine hq_F.st (s' := (4, _, _, _)) hg190_1 rfl rfl rfl (hq_gf h.1 sh_61 sk_11_37 (hq_ref h.1 sh_61 (b := 64) rfl)) ?_
  refine hq_F.st (s' := (5, _, _, _)) hg190_4 rfl rfl rfl rfl ?_
  refine hq_F.st (s' := (6, _, _, _)) hg190_5 rfl rfl rfl (sy_iav h.1 sh_64 (n := 3) (by decide) (by decide)) ?_
  rw [show gv w 64 (3) = Int32.ofNat (nt_c 3 NT) from (hn_e (hL.2.1 3 (by omega)) (by omega))]
  refine hq_F.st (s' := (7, _, _, _)) hg190_6 rfl rfl rfl rfl ?_
  refine hq_F.st (s' := (8, _, _, _)) hg190_7 rfl rfl rfl (hs_iln (pi_get_set _ _ _)) ?_
  refine hq_F.st (s' := (10, _, _, _)) hg190_8 rfl rfl rfl rfl ?_
  by_cases b10 : ¬ ((Int32.ofNat (nt_c 3 NT))).toInt = 6
  · skip
    refine hq_F.st (s' := (19, _, _, _)) hg190_10 rfl rfl rfl (hs_ic (ci_ne (by omega)) rfl) ?_
    have hlt : nt_c 3 NT < nt_mx 3 := by show nt_c 3 NT < 6; omega
    refine hq_F.st (s' := (20, _, _, _)) hg190_19 rfl rfl rfl (hs_al (hg_nr g0 (by decide))) ?_
    refine hq_F.call hg190_20 rfl rfl si_11_181 (by decide) (by decide) sz_176 (sy_argsV h.1 sh_61 rfl rfl rfl (Nat.le_of_ble_eq_true rfl) rfl (Nat.le_of_ble_eq_true rfl) rfl (by decide)) (mt_adv (d := d + 2) h h2t) (fun _ _ q => by rw [q.2.1.1.1, h.1.1]) ?_
    rintro r20 w1 ⟨rfl, h1, F1⟩
    try dsimp only
    have hL1 : MLx w1 A nr NT NT := hL.fr F1 (by decide) (by decide)
    refine hq_F.st (s' := (24, _, _, _)) hg190_23 rfl rfl rfl (hs_al (hg_nr g0 (by decide))) ?_
    refine hq_F.st (s' := (26, _, _, _)) hg190_24 rfl rfl rfl rfl ?_
    refine hq_F.st (s' := (27, _, _, _)) hg190_26 rfl rfl rfl (hs_iln (pi_get_set _ _ _)) ?_
    refine hq_F.st (s' := (28, _, _, _)) hg190_27 rfl rfl rfl rfl ?_
    refine hq_F.call hg190_28 rfl rfl si_11_210 (by decide) (by decide) sz_185 (sy_argsV h1.1 sh_61 rfl rfl rfl (Nat.le_of_ble_eq_true rfl) rfl (Nat.le_of_ble_eq_true rfl) rfl (by decide)) (mn_fr (d := d + 1) (b := 42 + nt_c 3 NT) h1 hL1.1 ho hL1.2.1 ⟨m0, m2, m3, m4⟩ (hn_k hv_42) (by omega)) (fun r w' q => by rcases q with ⟨_, _, _, q, _⟩ | ⟨_, q, _⟩; rw [q.1.1, h1.1.1]; rw [q.1.1, h1.1.1]) ?_
    rintro r28 w2 q
    try dsimp only
    rcases q with ⟨rfl, n2, f2, h2, F2, g2⟩ | ⟨rfl, h2, F2, q⟩
    · have hL2 := hL1.fresh (s := 3) ho ⟨m0, m2, m3, m4⟩ (by omega) hlt (by show 42 + nt_c 3 NT = 27 + 15 + nt_c 3 NT; omega) F2 g2
      refine hq_F.st (s' := (34, _, _, _)) hg190_31 rfl rfl rfl (hs_ifn (t := 48) (ci_eqn (by omega)) rfl) ?_
      refine hq_F.st (s' := (35, _, _, _)) hg190_34 rfl rfl rfl (hs_al (hg_nr g0 (by decide))) ?_
      refine hq_F.st (s' := (37, _, _, _)) hg190_35 rfl rfl rfl rfl ?_
      refine hq_F.st (s' := (38, _, _, _)) hg190_37 rfl rfl rfl (hs_iln (pi_get_set _ _ _)) ?_
      refine hq_F.st (s' := (39, _, _, _)) hg190_38 rfl rfl rfl rfl ?_
      refine hq_F.st (s' := (40, _, _, _)) hg190_39 rfl rfl rfl rfl ?_
      refine hq_F.st (s' := (42, _, _, _)) hg190_40 rfl rfl rfl rfl ?_
      refine hq_F.call hg190_42 rfl rfl si_11_223 (by decide) (by decide) sz_183 (sy_argsV h2.1 sh_61 rfl rfl rfl (Nat.le_of_ble_eq_true rfl) rfl (Nat.le_of_ble_eq_true rfl) rfl (by decide)) (ml_puts (d := d) (n := 15 + nt_c 3 NT) h2 (by rw [hn_k (n := nt_c 3 NT) hv_15]; exact hn_t (by omega)) (by omega) (fun v q1 q2 => sy_full (sn_5 _ (by omega) (by omega)))) (fun r w' q => by rcases q with ⟨_, _, _, q, _⟩ | ⟨_, q, _⟩; rw [q.1.1, h2.1.1]; rw [q.1.1, h2.1.1]) ?_
      rintro r42 w3 q
      try dsimp only
      rcases q with ⟨rfl, n3, r3, h3, w30, v3, F30, e3, hw3⟩ | ⟨rfl, h3, F3, r3, q⟩
      · have hL3 := (hL2.fr F30 (by decide) (by decide)).put (c0 := 2) (k0 := nt_c 3 NT) (by decide) (by show nt_c 3 NT < 6; omega) hw3
        refine hq_F.st (s' := (50, _, _, _)) hg190_45 rfl rfl rfl (hs_if (ci_ne (by omega)) rfl) ?_
        refine hq_F.st (s' := (51, _, _, _)) hg190_50 rfl rfl rfl (hs_al (hg_nr g0 (by decide))) ?_
        refine hq_F.st (s' := (54, _, _, _)) hg190_51 rfl rfl rfl (hq_gf h3.1 sh_61 sk_11_37 (hq_ref h3.1 sh_61 (b := 64) rfl)) ?_
        refine hq_F.st (s' := (56, _, _, _)) hg190_54 rfl rfl rfl rfl ?_
        refine hq_F.st (s' := (57, _, _, _)) hg190_56 rfl rfl rfl (hs_iln (pi_get_set _ _ _)) ?_
        refine hq_F.st (s' := (58, _, _, _)) hg190_57 rfl rfl rfl rfl ?_
        refine hq_F.st (s' := (59, _, _, _)) hg190_58 rfl rfl rfl rfl ?_
        refine sy_isv hg190_59 h3.1 sh_64 (n := 21 + nt_c 3 NT) (by rw [hn_k (n := nt_c 3 NT) hv_21]; exact hn_t (by omega)) (by omega) (sy_full (sn_5 _ (by omega) (by omega))) (fun w5 hC5 hw5 => ?_)
        have hL5 := hL3.put (c0 := 3) (k0 := nt_c 3 NT) (by decide) (by show nt_c 3 NT < 6; omega) hw5
        refine hq_F.st (s' := (61, _, _, _)) hg190_60 rfl rfl rfl (hs_al (hg_nr g0 (by decide))) ?_
        refine hq_F.st (s' := (64, _, _, _)) hg190_61 rfl rfl rfl (hq_gf hC5 sh_61 sk_11_37 (hq_ref hC5 sh_61 (b := 64) rfl)) ?_
        refine hq_F.st (s' := (66, _, _, _)) hg190_64 rfl rfl rfl rfl ?_
        refine hq_F.st (s' := (67, _, _, _)) hg190_66 rfl rfl rfl (hs_iln (pi_get_set _ _ _)) ?_
        refine hq_F.st (s' := (68, _, _, _)) hg190_67 rfl rfl rfl rfl ?_
        refine hq_F.st (s' := (69, _, _, _)) hg190_68 rfl rfl rfl rfl ?_
        refine sy_isv hg190_69 hC5 sh_64 (n := 27 + nt_c 3 NT) (by rw [hn_k (n := nt_c 3 NT) hv_27]; exact hn_t (by omega)) (by omega) (sy_sr (sn_27 _ (by omega) (by omega)) (by omega) (by omega)) (fun w6 hC6 hw6 => ?_)
        have hL6 := hL5.put (c0 := 4) (k0 := nt_c 3 NT) (by decide) (by show nt_c 3 NT < 6; omega) hw6
        have hv3 : v3 = Int32.ofNat (tq_nx tp B M (tq_nx tp B M t)).2.2.1 := hn_e e3 (by omega)
        have hT6 := (h3.fr hC5 (wpF hw5) rfl).fr hC6 (wpF hw6) rfl
        have hF6 : af_Fr ml_N w w6 := (F1.cov (by decide)).tr ((ml_f66 F2 (by omega)).tr ((F30.cov (by decide)).tr ((ml_w64 hw3 (by omega)).tr ((ml_w64 hw5 (by omega)).tr (ml_w64 hw6 (by omega))))))
        have hL7 : MLx w6 (ld_u (ld_u (ld_u A 4 (nt_c 3 NT) 0) 2 (nt_c 3 NT) v3) 3 (nt_c 3 NT) 0) nr (NT ++ [(3, nt_c 3 NT, (tq_nx tp B M t).2.2.2.1)]) NT := by
          have q := hL6
          rw [ld_u_comm (c := 3) (c' := 4) (by decide), ld_u_comm (c := 2) (c' := 4) (by decide)] at q
          exact q
        have ho2 : nt_ok (NT ++ [(3, nt_c 3 NT, (tq_nx tp B M t).2.2.2.1)]) := nt_ok_app ho (by omega) (h1.2.2.2.2.2.2.2 n2.1) f2
        have hc22 : nt_c 2 (NT ++ [(3, nt_c 3 NT, (tq_nx tp B M t).2.2.2.1)]) = nt_c 2 NT := by rw [nt_c_app, if_neg (show ¬ 3 = 2 by decide)]; rfl
        have eh : ls_head tp B M ((tq_nx tp B M t), A, nr, NT) = .inr ((tq_nx tp B M (tq_nx tp B M (tq_nx tp B M t))), (ld_u (ld_u (ld_u A 4 (nt_c 3 NT) 0) 2 (nt_c 3 NT) v3) 3 (nt_c 3 NT) 0), nr, (NT ++ [(3, nt_c 3 NT, (tq_nx tp B M t).2.2.2.1)])) := by show ls_b (ls_new tp B M 3 ((tq_nx tp B M t), A, nr, NT)) _ = _; rw [ls_new_in n2 f2, ls_br]; show ls_b (ls_numb 1 30 (tq_nx tp B M (tq_nx tp B M t))) _ = _; rw [show ls_numb 1 30 (tq_nx tp B M (tq_nx tp B M t)) = .inr (tq_nx tp B M (tq_nx tp B M t)).2.2.1 from if_pos ⟨n3, by omega, by omega⟩, ls_br]; rw [hv3]
        refine hq_F.st (s' := (71, _, _, _)) hg190_70 rfl rfl rfl (hs_iln (hg_ne g1 (by decide))) ?_
        refine hq_F.st (s' := (74, _, _, _)) hg190_71 rfl rfl rfl (hs_ifn (t := 143) (ci_eqn (by omega)) rfl) ?_
        refine hq_F.st (s' := (75, _, _, _)) hg190_74 rfl rfl rfl (hs_al (hg_nr g0 (by decide))) ?_
        refine hq_F.st (s' := (77, _, _, _)) hg190_75 rfl rfl rfl rfl ?_
        refine hq_F.st (s' := (78, _, _, _)) hg190_77 rfl rfl rfl (hs_al (hg_nr g0 (by decide))) ?_
        refine hq_F.st (s' := (81, _, _, _)) hg190_78 rfl rfl rfl (hq_gf hC6 sh_61 sk_11_37 (hq_ref hC6 sh_61 (b := 64) rfl)) ?_
        refine hq_F.st (s' := (82, _, _, _)) hg190_81 rfl rfl rfl rfl ?_
        refine hq_F.st (s' := (83, _, _, _)) hg190_82 rfl rfl rfl (sy_iav hC6 sh_64 (n := 3) (by decide) (by decide)) ?_
        refine hq_F.call hg190_83 rfl rfl si_11_203 (by decide) (by decide) sz_186 (sy_argsV hC6 sh_61 rfl rfl rfl (Nat.le_of_ble_eq_true rfl) rfl (Nat.le_of_ble_eq_true rfl) rfl (by decide)) (mn_la (d := d + 2) (off := 27) (s := 3) hT6 hL7.1.sub ho (by decide) (hL7.2.1 3 (by omega)) (by show 27 + 15 + nt_c 3 NT ≤ 54; omega)) (fun r w' q => by rcases q with ⟨_, _, _, q, _⟩ | ⟨_, q, _⟩; rw [q.1.1, hC6.1]; rw [q.1.1, hC6.1]) ?_
        rintro r83 w7 q
        try dsimp only
        rcases q with ⟨rfl, n7, f7, h7, F7, g7⟩ | ⟨rfl, h7, F7, q⟩
        · obtain ⟨b, hb, eb, lb⟩ := ls_look_in ho (by omega) n7 g7 f7
          have tb : (Int32.ofNat b).toInt = (b : Int) := hn_t (by omega)
          have hL8 := hL7.fr F7 (by decide) (by decide)
          have hnz : b ≠ nt_c 3 NT := by omega
          have hc33 : nt_c 3 (NT ++ [(3, nt_c 3 NT, (tq_nx tp B M t).2.2.2.1)]) = nt_c 3 NT + 1 := by rw [nt_c_app]; exact congrArg _ (if_pos rfl)
          have lb2 : ls_look 3 (tq_nx tp B M (tq_nx tp B M (tq_nx tp B M t))) (NT ++ [(3, nt_c 3 NT, (tq_nx tp B M t).2.2.2.1)]) = .inr b := by
            obtain ⟨b2, hb2, eb2, lb2⟩ := ls_look_in (s := 3) (v := gv w7 61 18) ho2 (by omega) n7 (by rw [g7]; exact (nt_f_app_some f7).symm) (by rw [nt_f_app_some f7]; exact f7)
            rw [lb2, show b2 = b from by have q : Int32.ofNat b2 = Int32.ofNat b := eb2.symm.trans eb; have q1 : (Int32.ofNat b2).toInt = (b2 : Int) := hn_t (by omega); rw [q] at q1; omega]
          have hb99 := sy_r64 h7.1 (sb_27 (27 + b) (by omega) (by omega))
          refine hq_F.st (s' := (91, _, _, _)) hg190_86 rfl rfl rfl (hs_if (ci_ne (by omega)) rfl) ?_
          refine hq_F.st (s' := (92, _, _, _)) hg190_91 rfl rfl rfl (hs_al (hg_nr g0 (by decide))) ?_
          refine hq_F.st (s' := (95, _, _, _)) hg190_92 rfl rfl rfl (hq_gf h7.1 sh_61 sk_11_37 (hq_ref h7.1 sh_61 (b := 64) rfl)) ?_
          refine hq_F.st (s' := (97, _, _, _)) hg190_95 rfl rfl rfl rfl ?_
          refine hq_F.st (s' := (98, _, _, _)) hg190_97 rfl rfl rfl (hs_al (hg_nr g0 (by decide))) ?_
          refine hq_F.st (s' := (101, _, _, _)) hg190_98 rfl rfl rfl (hq_gf h7.1 sh_61 sk_11_188 (sy_v h7.1 (by decide) rfl)) ?_
          rw [show gv w7 61 18 = Int32.ofNat b from by exact eb]
          refine hq_F.st (s' := (102, _, _, _)) hg190_101 rfl rfl rfl rfl ?_
          refine hq_F.st (s' := (103, _, _, _)) hg190_102 rfl rfl rfl (sy_iav h7.1 sh_64 (n := 27 + b) (by rw [hn_k (n := b) hv_27]; exact hn_t (by omega)) (by omega)) ?_
          rw [show gv w7 64 (27 + b) = (ld_u (ld_u (ld_u A 4 (nt_c 3 NT) 0) 2 (nt_c 3 NT) v3) 3 (nt_c 3 NT) 0) 4 b from (hL8.2.2.2.get (c := 4) (k := b) (by decide) (by show b < 6; omega))]
          rw [show gv w7 64 (27 + b) = (ld_u (ld_u (ld_u A 4 (nt_c 3 NT) 0) 2 (nt_c 3 NT) v3) 3 (nt_c 3 NT) 0) 4 b from (hL8.2.2.2.get (c := 4) (k := b) (by decide) (by show b < 6; omega))] at hb99
          by_cases b103 : (((ld_u (ld_u (ld_u A 4 (nt_c 3 NT) 0) 2 (nt_c 3 NT) v3) 3 (nt_c 3 NT) 0) 4 b)).toInt ≤ 0
          · skip
            refine hq_F.st (s' := (112, _, _, _)) hg190_103 rfl rfl rfl (hs_if (ci_le (by omega)) rfl) ?_
            refine hq_F.st (s' := (113, _, _, _)) hg190_112 rfl rfl rfl (hs_al (hg_nr g0 (by decide))) ?_
            refine hq_F.st (s' := (116, _, _, _)) hg190_113 rfl rfl rfl (hq_gf h7.1 sh_61 sk_11_37 (hq_ref h7.1 sh_61 (b := 64) rfl)) ?_
            refine hq_F.st (s' := (118, _, _, _)) hg190_116 rfl rfl rfl rfl ?_
            refine hq_F.st (s' := (119, _, _, _)) hg190_118 rfl rfl rfl (hs_iln (pi_get_set _ _ _)) ?_
            refine hq_F.st (s' := (120, _, _, _)) hg190_119 rfl rfl rfl rfl ?_
            refine hq_F.st (s' := (121, _, _, _)) hg190_120 rfl rfl rfl (hs_al (hg_nr g0 (by decide))) ?_
            refine hq_F.st (s' := (124, _, _, _)) hg190_121 rfl rfl rfl (hq_gf h7.1 sh_61 sk_11_188 (sy_v h7.1 (by decide) rfl)) ?_
            rw [show gv w7 61 18 = Int32.ofNat b from by exact eb]
            refine hq_F.st (s' := (125, _, _, _)) hg190_124 rfl rfl rfl rfl ?_
            refine hq_F.st (s' := (126, _, _, _)) hg190_125 rfl rfl rfl rfl ?_
            rw [hn_s]
            have tb1 : (Int32.ofNat (b + 1)).toInt = ((b + 1 : Nat) : Int) := hn_t (by omega)
            refine sy_isv hg190_126 h7.1 sh_64 (n := 27 + nt_c 3 NT) (by rw [hn_k (n := nt_c 3 NT) hv_27]; exact hn_t (by omega)) (by omega) (sy_sr (sn_27 _ (by omega) (by omega)) (by omega) (by omega)) (fun w8 hC8 hw8 => ?_)
            have hT8 := h7.fr hC8 (wpF hw8) rfl
            have hL9 := hL8.put (c0 := 4) (k0 := nt_c 3 NT) (by decide) (by show nt_c 3 NT < 6; omega) hw8
            refine hq_F.st (s' := (128, _, _, _)) hg190_127 rfl rfl rfl (hs_al (hg_nr g0 (by decide))) ?_
            refine hq_F.call hg190_128 rfl rfl si_11_181 (by decide) (by decide) sz_176 (sy_argsV hC8 sh_61 rfl rfl rfl (Nat.le_of_ble_eq_true rfl) rfl (Nat.le_of_ble_eq_true rfl) rfl (by decide)) (mt_adv (d := d + 2) hT8 (by have := n7.1; omega)) (fun _ _ q => by rw [q.2.1.1.1, hC8.1]) ?_
            rintro r128 w9 ⟨rfl, h9, F9⟩
            try dsimp only
            refine hq_F.st (s' := (132, _, _, _)) hg190_131 rfl rfl rfl (hs_al (hg_nr g0 (by decide))) ?_
            refine hq_F.st (s' := (135, _, _, _)) hg190_132 rfl rfl rfl (hq_gf h9.1 sh_61 sk_11_37 (hq_ref h9.1 sh_61 (b := 64) rfl)) ?_
            refine hq_F.st (s' := (136, _, _, _)) hg190_135 rfl rfl rfl rfl ?_
            refine hq_F.st (s' := (137, _, _, _)) hg190_136 rfl rfl rfl rfl ?_
            refine hq_F.st (s' := (138, _, _, _)) hg190_137 rfl rfl rfl (sy_iav h9.1 sh_64 (n := 3) (by decide) (by decide)) ?_
            rw [show gv w9 64 (3) = Int32.ofNat (nt_c 3 NT) from (hn_e ((hL9.fr F9 (by decide) (by decide)).2.1 3 (by omega)) (by omega))]
            refine hq_F.st (s' := (139, _, _, _)) hg190_138 rfl rfl rfl rfl ?_
            refine hq_F.st (s' := (140, _, _, _)) hg190_139 rfl rfl rfl rfl ?_
            rw [hn_s]
            have tl1 : (Int32.ofNat (nt_c 3 NT + 1)).toInt = ((nt_c 3 NT + 1 : Nat) : Int) := hn_t (by omega)
            refine sy_isv hg190_140 h9.1 sh_64 (n := 3) (by decide) (by decide) (sy_sr sn_3 (by omega) (by omega)) (fun wa hCa hwa => ?_)
            have hLa := (hL9.fr F9 (by decide) (by decide)).cnt (by omega) hwa tl1
            refine hq_F.st (s' := (142, _, _, _)) hg190_141 rfl rfl rfl rfl ?_
            refine hq_F.en hg190_142 rfl rfl ?_
            have hz4 : (ld_u (ld_u (ld_u A 4 (nt_c 3 NT) 0) 2 (nt_c 3 NT) v3) 3 (nt_c 3 NT) 0) 4 b = 0 := sy_zz (by omega)
            exact ⟨hCa, hF6.tr ((F7.cov (by decide)).tr ((ml_w64 hw8 (by omega)).tr ((F9.cov (by decide)).tr (ml_w64 hwa (by omega))))), Or.inl ⟨rfl, (tq_nx tp B M (tq_nx tp B M (tq_nx tp B M (tq_nx tp B M t))), (ld_u (ld_u (ld_u (ld_u A 4 (nt_c 3 NT) 0) 2 (nt_c 3 NT) v3) 3 (nt_c 3 NT) 0) 4 (nt_c 3 NT) (Int32.ofNat (b + 1))), nr, (NT ++ [(3, nt_c 3 NT, (tq_nx tp B M t).2.2.2.1)])), by show ls_b (ls_more tp B M (nt_c 3 NT) 6 (t, A, nr, NT)) _ = _; rw [show ls_more tp B M (nt_c 3 NT) 6 (t, A, nr, NT) = .inr ((tq_nx tp B M t), A, nr, NT) from if_pos (by omega)]; rw [ls_br]; show ls_b (ls_head tp B M ((tq_nx tp B M t), A, nr, NT)) _ = _; rw [eh]; rw [ls_br]; show ls_b (ls_look 3 (tq_nx tp B M (tq_nx tp B M (tq_nx tp B M t))) (NT ++ [(3, nt_c 3 NT, (tq_nx tp B M t).2.2.2.1)])) _ = _; rw [lb2, ls_br]; exact if_neg (by rintro (q | q); exact hnz q; exact q hz4), h9.fr hCa (wpF hwa) rfl, hLa⟩⟩
          · skip
            refine hq_F.st (s' := (106, _, _, _)) hg190_103 rfl rfl rfl (hs_ifn (t := 112) (ci_len (by omega)) rfl) ?_
            refine hq_F.st (s' := (107, _, _, _)) hg190_106 rfl rfl rfl (hs_al (hg_nr g0 (by decide))) ?_
            refine hq_F.st (s' := (108, _, _, _)) hg190_107 rfl rfl rfl rfl ?_
            refine hq_F.call hg190_108 rfl rfl si_11_178 (by decide) (by decide) sz_177 (sy_argsV h7.1 sh_61 rfl rfl rfl (Nat.le_of_ble_eq_true rfl) rfl (Nat.le_of_ble_eq_true rfl) rfl (by decide)) (mt_bad h7 ((Int32.ofInt 3))) (fun _ _ q => by rw [q.2.1.1.1, h7.1.1]) ?_
            rintro r108 w9 ⟨rfl, k1, k2, k3, k4⟩
            try dsimp only
            refine hq_F.en hg190_111 rfl rfl ?_
            have hne : ¬ (ld_u (ld_u (ld_u A 4 (nt_c 3 NT) 0) 2 (nt_c 3 NT) v3) 3 (nt_c 3 NT) 0) 4 b = 0 := by
              intro q
              have z : (0 : Int32).toInt = 0 := by decide
              rw [q, z] at b103
              omega
            exact ⟨k1.1, hF6.tr ((F7.cov (by decide)).tr (k2.cov (by decide))), Or.inr ⟨rfl, 3, (tq_nx tp B M (tq_nx tp B M (tq_nx tp B M t))).2.1, by show ls_b (ls_more tp B M (nt_c 3 NT) 6 (t, A, nr, NT)) _ = _; rw [show ls_more tp B M (nt_c 3 NT) 6 (t, A, nr, NT) = .inr ((tq_nx tp B M t), A, nr, NT) from if_pos (by omega)]; rw [ls_br]; show ls_b (ls_head tp B M ((tq_nx tp B M t), A, nr, NT)) _ = _; rw [eh]; rw [ls_br]; show ls_b (ls_look 3 (tq_nx tp B M (tq_nx tp B M (tq_nx tp B M t))) (NT ++ [(3, nt_c 3 NT, (tq_nx tp B M t).2.2.2.1)])) _ = _; rw [lb2, ls_br]; exact if_pos (Or.inr hne), by rw [k3]; decide, k4⟩⟩
        · skip
          refine hq_F.st (s' := (89, _, _, _)) hg190_86 rfl rfl rfl (hs_ifn (t := 91) (ci_nen (by omega)) rfl) ?_
          refine hq_F.st (s' := (90, _, _, _)) hg190_89 rfl rfl rfl rfl ?_
          refine hq_F.en hg190_90 rfl rfl ?_
          rcases q with ⟨q1, q2⟩ | ⟨q1, q2, q3⟩
          · exact ⟨h7.1, hF6.tr (F7.cov (by decide)), Or.inr ⟨rfl, 1, (tq_nx tp B M (tq_nx tp B M (tq_nx tp B M t))).2.1, by show ls_b (ls_more tp B M (nt_c 3 NT) 6 (t, A, nr, NT)) _ = _; rw [show ls_more tp B M (nt_c 3 NT) 6 (t, A, nr, NT) = .inr ((tq_nx tp B M t), A, nr, NT) from if_pos (by omega)]; rw [ls_br]; show ls_b (ls_head tp B M ((tq_nx tp B M t), A, nr, NT)) _ = _; rw [eh]; rw [ls_br]; show ls_b (ls_look 3 (tq_nx tp B M (tq_nx tp B M (tq_nx tp B M t))) (NT ++ [(3, nt_c 3 NT, (tq_nx tp B M t).2.2.2.1)])) _ = _; rw [ls_look_1 q1]; rfl, q2⟩⟩
          · refine ⟨h7.1, hF6.tr (F7.cov (by decide)), Or.inr ⟨rfl, 3, (tq_nx tp B M (tq_nx tp B M (tq_nx tp B M t))).2.1, ?_, q3⟩⟩
            have qa := nt_f_app_none (k := nt_c 3 NT) (v := (tq_nx tp B M t).2.2.2.1) q2
            by_cases e : (tq_nx tp B M t).2.2.2.1 = (tq_nx tp B M (tq_nx tp B M (tq_nx tp B M t))).2.2.2.1
            · rw [if_pos e] at qa
              show ls_b (ls_more tp B M (nt_c 3 NT) 6 (t, A, nr, NT)) _ = _; rw [show ls_more tp B M (nt_c 3 NT) 6 (t, A, nr, NT) = .inr ((tq_nx tp B M t), A, nr, NT) from if_pos (by omega)]; rw [ls_br]; show ls_b (ls_head tp B M ((tq_nx tp B M t), A, nr, NT)) _ = _; rw [eh]; rw [ls_br]; show ls_b (ls_look 3 (tq_nx tp B M (tq_nx tp B M (tq_nx tp B M t))) (NT ++ [(3, nt_c 3 NT, (tq_nx tp B M t).2.2.2.1)])) _ = _; rw [show ls_look 3 (tq_nx tp B M (tq_nx tp B M (tq_nx tp B M t))) (NT ++ [(3, nt_c 3 NT, (tq_nx tp B M t).2.2.2.1)]) = .inr (nt_c 3 NT) from by unfold ls_look ls_nm; rw [decide_eq_true q1, if_neg (by decide), if_neg (by rw [qa]; omega), qa]; rfl, ls_br]; exact if_pos (Or.inl rfl)
            · rw [if_neg e] at qa
              show ls_b (ls_more tp B M (nt_c 3 NT) 6 (t, A, nr, NT)) _ = _; rw [show ls_more tp B M (nt_c 3 NT) 6 (t, A, nr, NT) = .inr ((tq_nx tp B M t), A, nr, NT) from if_pos (by omega)]; rw [ls_br]; show ls_b (ls_head tp B M ((tq_nx tp B M t), A, nr, NT)) _ = _; rw [eh]; rw [ls_br]; show ls_b (ls_look 3 (tq_nx tp B M (tq_nx tp B M (tq_nx tp B M t))) (NT ++ [(3, nt_c 3 NT, (tq_nx tp B M t).2.2.2.1)])) _ = _; rw [ls_look_3 q1 qa]; rfl
      · skip
        refine hq_F.st (s' := (48, _, _, _)) hg190_45 rfl rfl rfl (hs_ifn (t := 50) (ci_nen (by omega)) rfl) ?_
        refine hq_F.st (s' := (49, _, _, _)) hg190_48 rfl rfl rfl rfl ?_
        refine hq_F.en hg190_49 rfl rfl ?_
        exact ⟨h3.1, (F1.cov (by decide)).tr ((ml_f66 F2 (by omega)).tr (F3.cov (by decide))), Or.inr ⟨rfl, (if (tq_nx tp B M (tq_nx tp B M t)).1 = 3 then 2 else 1), (tq_nx tp B M (tq_nx tp B M t)).2.1, by show ls_b (ls_more tp B M (nt_c 3 NT) 6 (t, A, nr, NT)) _ = _; rw [show ls_more tp B M (nt_c 3 NT) 6 (t, A, nr, NT) = .inr ((tq_nx tp B M t), A, nr, NT) from if_pos (by omega)]; rw [ls_br]; show ls_b (ls_head tp B M ((tq_nx tp B M t), A, nr, NT)) _ = _; rw [show ls_head tp B M ((tq_nx tp B M t), A, nr, NT) = .inl (if (tq_nx tp B M (tq_nx tp B M t)).1 = 3 then 2 else 1, (tq_nx tp B M (tq_nx tp B M t)).2.1) from by show ls_b (ls_new tp B M 3 ((tq_nx tp B M t), A, nr, NT)) _ = _; rw [ls_new_in n2 f2, ls_br]; show ls_b (ls_numb 1 30 (tq_nx tp B M (tq_nx tp B M t))) _ = _; rw [show ls_numb 1 30 (tq_nx tp B M (tq_nx tp B M t)) = .inl (if (tq_nx tp B M (tq_nx tp B M t)).1 = 3 then 2 else 1, (tq_nx tp B M (tq_nx tp B M t)).2.1) from if_neg (fun q => r3 ⟨q.1, by omega, by omega⟩)]; rfl]; rfl, q⟩⟩
    · skip
      refine hq_F.st (s' := (48, _, _, _)) hg190_31 rfl rfl rfl (hs_if (ci_eq (by omega)) rfl) ?_
      refine hq_F.st (s' := (49, _, _, _)) hg190_48 rfl rfl rfl rfl ?_
      refine hq_F.en hg190_49 rfl rfl ?_
      rcases q with ⟨q1, q2⟩ | ⟨q1, q2, q3⟩
      · exact ⟨h2.1, (F1.cov (by decide)).tr (F2.cov (by decide)), Or.inr ⟨rfl, 1, (tq_nx tp B M t).2.1, by show ls_b (ls_more tp B M (nt_c 3 NT) 6 (t, A, nr, NT)) _ = _; rw [show ls_more tp B M (nt_c 3 NT) 6 (t, A, nr, NT) = .inr ((tq_nx tp B M t), A, nr, NT) from if_pos (by omega)]; rw [ls_br]; show ls_b (ls_head tp B M ((tq_nx tp B M t), A, nr, NT)) _ = _; rw [show ls_head tp B M ((tq_nx tp B M t), A, nr, NT) = .inl (1, (tq_nx tp B M t).2.1) from by show ls_b (ls_new tp B M 3 ((tq_nx tp B M t), A, nr, NT)) _ = _; rw [ls_new_1 q1]; rfl]; rfl, q2⟩⟩
      · exact ⟨h2.1, (F1.cov (by decide)).tr (F2.cov (by decide)), Or.inr ⟨rfl, 3, (tq_nx tp B M t).2.1, by show ls_b (ls_more tp B M (nt_c 3 NT) 6 (t, A, nr, NT)) _ = _; rw [show ls_more tp B M (nt_c 3 NT) 6 (t, A, nr, NT) = .inr ((tq_nx tp B M t), A, nr, NT) from if_pos (by omega)]; rw [ls_br]; show ls_b (ls_head tp B M ((tq_nx tp B M t), A, nr, NT)) _ = _; rw [show ls_head tp B M ((tq_nx tp B M t), A, nr, NT) = .inl (3, (tq_nx tp B M t).2.1) from by show ls_b (ls_new tp B M 3 ((tq_nx tp B M t), A, nr, NT)) _ = _; rw [ls_new_3 q1 q2]; rfl]; rfl, q3⟩⟩
  · skip
    refine hq_F.st (s' := (13, _, _, _)) hg190_10 rfl rfl rfl (hs_icn (t := 19) (ci_nen (by omega)) rfl) ?_
    refine hq_F.st (s' := (14, _, _, _)) hg190_13 rfl rfl rfl (hs_al (hg_nr g0 (by decide))) ?_
    refine hq_F.st (s' := (15, _, _, _)) hg190_14 rfl rfl rfl rfl ?_
    refine hq_F.call hg190_15 rfl rfl si_11_178 (by decide) (by decide) sz_177 (sy_argsV h.1 sh_61 rfl rfl rfl (Nat.le_of_ble_eq_true rfl) rfl (Nat.le_of_ble_eq_true rfl) rfl (by decide)) (mt_bad h ((Int32.ofInt 4))) (fun _ _ q => by rw [q.2.1.1.1, h.1.1]) ?_
    rintro r15 w9 ⟨rfl, k1, k2, k3, k4⟩
    try dsimp only
    refine hq_F.en hg190_18 rfl rfl ?_
    exact ⟨k1.1, k2.cov (by decide), Or.inr ⟨rfl, 4, t.2.1, by show ls_b (ls_more tp B M (nt_c 3 NT) 6 (t, A, nr, NT)) _ = _; rw [show ls_more tp B M (nt_c 3 NT) 6 (t, A, nr, NT) = .inl (4, t.2.1) from if_neg (by omega)]; rfl, by rw [k3]; decide, k4⟩⟩
