/-! ===== the SENTENCE in the model: behind; by program ===== -/
theorem sk_11_442 : pi_look pi_fT 11 442 = some (11, 40, 1287) := rfl
theorem si_11_445 : pi_look pi_iT 11 445 = some (2, 274, 0, 1805) := rfl
theorem si_11_448 : pi_look pi_iT 11 448 = some (2, 273, 1, 1813) := rfl
def sm275 : pi_M := (11, 1, (some .int), false, mc_275)
def sm276 : pi_M := (11, 5, (some .boolean), false, mc_276)
set_option maxRecDepth 100000 in
theorem sz_275 : pi_mt[275]? = some (mn_275, prog_13_method_115_code, (11, 1, (some .int), false, mc_275)) := rfl
set_option maxRecDepth 100000 in
theorem sz_276 : pi_mt[276]? = some (mn_276, prog_13_method_116_code, (11, 5, (some .boolean), false, mc_276)) := rfl
theorem hj275_0 : pi_fetch mc_275 0 = some (.aload_n 0, 1) := rfl
theorem hj275_1 : pi_fetch mc_275 1 = some (.ldc2_w 124, 3) := rfl
theorem hj275_4 : pi_fetch mc_275 4 = some (.invokevirtual 206, 3) := rfl
theorem hj275_7 : pi_fetch mc_275 7 = some (.ifCond .eq 7, 3) := rfl
theorem hj275_10 : pi_fetch mc_275 10 = some (.iconst 0, 1) := rfl
theorem hj275_11 : pi_fetch mc_275 11 = some (.goto 119, 3) := rfl
theorem hj275_14 : pi_fetch mc_275 14 = some (.aload_n 0, 1) := rfl
theorem hj275_15 : pi_fetch mc_275 15 = some (.ldc2_w 126, 3) := rfl
theorem hj275_18 : pi_fetch mc_275 18 = some (.invokevirtual 206, 3) := rfl
theorem hj275_21 : pi_fetch mc_275 21 = some (.ifCond .eq 7, 3) := rfl
theorem hj275_24 : pi_fetch mc_275 24 = some (.iconst 1, 1) := rfl
theorem hj275_25 : pi_fetch mc_275 25 = some (.goto 105, 3) := rfl
theorem hj275_28 : pi_fetch mc_275 28 = some (.aload_n 0, 1) := rfl
theorem hj275_29 : pi_fetch mc_275 29 = some (.ldc2_w 128, 3) := rfl
theorem hj275_32 : pi_fetch mc_275 32 = some (.invokevirtual 206, 3) := rfl
theorem hj275_35 : pi_fetch mc_275 35 = some (.ifCond .eq 7, 3) := rfl
theorem hj275_38 : pi_fetch mc_275 38 = some (.iconst 2, 1) := rfl
theorem hj275_39 : pi_fetch mc_275 39 = some (.goto 91, 3) := rfl
theorem hj275_42 : pi_fetch mc_275 42 = some (.aload_n 0, 1) := rfl
theorem hj275_43 : pi_fetch mc_275 43 = some (.ldc2_w 130, 3) := rfl
theorem hj275_46 : pi_fetch mc_275 46 = some (.invokevirtual 206, 3) := rfl
theorem hj275_49 : pi_fetch mc_275 49 = some (.ifCond .eq 7, 3) := rfl
theorem hj275_52 : pi_fetch mc_275 52 = some (.iconst 3, 1) := rfl
theorem hj275_53 : pi_fetch mc_275 53 = some (.goto 77, 3) := rfl
theorem hj275_56 : pi_fetch mc_275 56 = some (.aload_n 0, 1) := rfl
theorem hj275_57 : pi_fetch mc_275 57 = some (.ldc2_w 132, 3) := rfl
theorem hj275_60 : pi_fetch mc_275 60 = some (.invokevirtual 206, 3) := rfl
theorem hj275_63 : pi_fetch mc_275 63 = some (.ifCond .eq 7, 3) := rfl
theorem hj275_66 : pi_fetch mc_275 66 = some (.iconst 4, 1) := rfl
theorem hj275_67 : pi_fetch mc_275 67 = some (.goto 63, 3) := rfl
theorem hj275_70 : pi_fetch mc_275 70 = some (.aload_n 0, 1) := rfl
theorem hj275_71 : pi_fetch mc_275 71 = some (.ldc2_w 134, 3) := rfl
theorem hj275_74 : pi_fetch mc_275 74 = some (.invokevirtual 206, 3) := rfl
theorem hj275_77 : pi_fetch mc_275 77 = some (.ifCond .eq 7, 3) := rfl
theorem hj275_80 : pi_fetch mc_275 80 = some (.iconst 5, 1) := rfl
theorem hj275_81 : pi_fetch mc_275 81 = some (.goto 49, 3) := rfl
theorem hj275_84 : pi_fetch mc_275 84 = some (.aload_n 0, 1) := rfl
theorem hj275_85 : pi_fetch mc_275 85 = some (.ldc2_w 136, 3) := rfl
theorem hj275_88 : pi_fetch mc_275 88 = some (.invokevirtual 206, 3) := rfl
theorem hj275_91 : pi_fetch mc_275 91 = some (.ifCond .eq 8, 3) := rfl
theorem hj275_94 : pi_fetch mc_275 94 = some (.bipush 6, 2) := rfl
theorem hj275_96 : pi_fetch mc_275 96 = some (.goto 34, 3) := rfl
theorem hj275_99 : pi_fetch mc_275 99 = some (.aload_n 0, 1) := rfl
theorem hj275_100 : pi_fetch mc_275 100 = some (.ldc2_w 138, 3) := rfl
theorem hj275_103 : pi_fetch mc_275 103 = some (.invokevirtual 206, 3) := rfl
theorem hj275_106 : pi_fetch mc_275 106 = some (.ifCond .eq 8, 3) := rfl
theorem hj275_109 : pi_fetch mc_275 109 = some (.bipush 7, 2) := rfl
theorem hj275_111 : pi_fetch mc_275 111 = some (.goto 19, 3) := rfl
theorem hj275_114 : pi_fetch mc_275 114 = some (.aload_n 0, 1) := rfl
theorem hj275_115 : pi_fetch mc_275 115 = some (.ldc2_w 140, 3) := rfl
theorem hj275_118 : pi_fetch mc_275 118 = some (.invokevirtual 206, 3) := rfl
theorem hj275_121 : pi_fetch mc_275 121 = some (.ifCond .eq 8, 3) := rfl
theorem hj275_124 : pi_fetch mc_275 124 = some (.bipush 8, 2) := rfl
theorem hj275_126 : pi_fetch mc_275 126 = some (.goto 4, 3) := rfl
theorem hj275_129 : pi_fetch mc_275 129 = some (.iconst (-1), 1) := rfl
theorem hj275_130 : pi_fetch mc_275 130 = some (.ireturn, 1) := rfl
theorem hj276_0 : pi_fetch mc_276 0 = some (.aload_n 0, 1) := rfl
theorem hj276_1 : pi_fetch mc_276 1 = some (.ldc2_w 122, 3) := rfl
theorem hj276_4 : pi_fetch mc_276 4 = some (.invokevirtual 206, 3) := rfl
theorem hj276_7 : pi_fetch mc_276 7 = some (.istore_n 1, 1) := rfl
theorem hj276_8 : pi_fetch mc_276 8 = some (.aload_n 0, 1) := rfl
theorem hj276_9 : pi_fetch mc_276 9 = some (.bipush 40, 2) := rfl
theorem hj276_11 : pi_fetch mc_276 11 = some (.invokevirtual 175, 3) := rfl
theorem hj276_14 : pi_fetch mc_276 14 = some (.istore_n 2, 1) := rfl
theorem hj276_15 : pi_fetch mc_276 15 = some (.aload_n 0, 1) := rfl
theorem hj276_16 : pi_fetch mc_276 16 = some (.invokevirtual 436, 3) := rfl
theorem hj276_19 : pi_fetch mc_276 19 = some (.istore_n 3, 1) := rfl
theorem hj276_20 : pi_fetch mc_276 20 = some (.iload_n 1, 1) := rfl
theorem hj276_21 : pi_fetch mc_276 21 = some (.ifCond .ne 17, 3) := rfl
theorem hj276_24 : pi_fetch mc_276 24 = some (.iload_n 2, 1) := rfl
theorem hj276_25 : pi_fetch mc_276 25 = some (.ifCond .ne 13, 3) := rfl
theorem hj276_28 : pi_fetch mc_276 28 = some (.iload_n 3, 1) := rfl
theorem hj276_29 : pi_fetch mc_276 29 = some (.ifCond .ge 9, 3) := rfl
theorem hj276_32 : pi_fetch mc_276 32 = some (.aload_n 0, 1) := rfl
theorem hj276_33 : pi_fetch mc_276 33 = some (.iconst 1, 1) := rfl
theorem hj276_34 : pi_fetch mc_276 34 = some (.invokevirtual 178, 3) := rfl
theorem hj276_37 : pi_fetch mc_276 37 = some (.ireturn, 1) := rfl
theorem hj276_38 : pi_fetch mc_276 38 = some (.aload_n 0, 1) := rfl
theorem hj276_39 : pi_fetch mc_276 39 = some (.getfield 439, 3) := rfl
theorem hj276_42 : pi_fetch mc_276 42 = some (.bipush 20, 2) := rfl
theorem hj276_44 : pi_fetch mc_276 44 = some (.if_icmp .eq 12, 3) := rfl
theorem hj276_47 : pi_fetch mc_276 47 = some (.aload_n 0, 1) := rfl
theorem hj276_48 : pi_fetch mc_276 48 = some (.getfield 433, 3) := rfl
theorem hj276_51 : pi_fetch mc_276 51 = some (.bipush 8, 2) := rfl
theorem hj276_53 : pi_fetch mc_276 53 = some (.if_icmp .le 9, 3) := rfl
theorem hj276_56 : pi_fetch mc_276 56 = some (.aload_n 0, 1) := rfl
theorem hj276_57 : pi_fetch mc_276 57 = some (.iconst 4, 1) := rfl
theorem hj276_58 : pi_fetch mc_276 58 = some (.invokevirtual 178, 3) := rfl
theorem hj276_61 : pi_fetch mc_276 61 = some (.ireturn, 1) := rfl
theorem hj276_62 : pi_fetch mc_276 62 = some (.aload_n 0, 1) := rfl
theorem hj276_63 : pi_fetch mc_276 63 = some (.dup, 1) := rfl
theorem hj276_64 : pi_fetch mc_276 64 = some (.getfield 439, 3) := rfl
theorem hj276_67 : pi_fetch mc_276 67 = some (.iconst 1, 1) := rfl
theorem hj276_68 : pi_fetch mc_276 68 = some (.iadd, 1) := rfl
theorem hj276_69 : pi_fetch mc_276 69 = some (.putfield 439, 3) := rfl
theorem hj276_72 : pi_fetch mc_276 72 = some (.aload_n 0, 1) := rfl
theorem hj276_73 : pi_fetch mc_276 73 = some (.invokevirtual 181, 3) := rfl
theorem hj276_76 : pi_fetch mc_276 76 = some (.iload_n 1, 1) := rfl
theorem hj276_77 : pi_fetch mc_276 77 = some (.ifCond .ne 7, 3) := rfl
theorem hj276_80 : pi_fetch mc_276 80 = some (.iload_n 2, 1) := rfl
theorem hj276_81 : pi_fetch mc_276 81 = some (.ifCond .eq 45, 3) := rfl
theorem hj276_84 : pi_fetch mc_276 84 = some (.aload_n 0, 1) := rfl
theorem hj276_85 : pi_fetch mc_276 85 = some (.getfield 68, 3) := rfl
theorem hj276_88 : pi_fetch mc_276 88 = some (.aload_n 0, 1) := rfl
theorem hj276_89 : pi_fetch mc_276 89 = some (.getfield 427, 3) := rfl
theorem hj276_92 : pi_fetch mc_276 92 = some (.iload_n 1, 1) := rfl
theorem hj276_93 : pi_fetch mc_276 93 = some (.ifCond .eq 8, 3) := rfl
theorem hj276_96 : pi_fetch mc_276 96 = some (.bipush 20, 2) := rfl
theorem hj276_98 : pi_fetch mc_276 98 = some (.goto 5, 3) := rfl
theorem hj276_101 : pi_fetch mc_276 101 = some (.bipush 23, 2) := rfl
theorem hj276_103 : pi_fetch mc_276 103 = some (.iastore, 1) := rfl
theorem hj276_104 : pi_fetch mc_276 104 = some (.aload_n 0, 1) := rfl
theorem hj276_105 : pi_fetch mc_276 105 = some (.dup, 1) := rfl
theorem hj276_106 : pi_fetch mc_276 106 = some (.getfield 427, 3) := rfl
theorem hj276_109 : pi_fetch mc_276 109 = some (.iconst 1, 1) := rfl
theorem hj276_110 : pi_fetch mc_276 110 = some (.iadd, 1) := rfl
theorem hj276_111 : pi_fetch mc_276 111 = some (.putfield 427, 3) := rfl
theorem hj276_114 : pi_fetch mc_276 114 = some (.aload_n 0, 1) := rfl
theorem hj276_115 : pi_fetch mc_276 115 = some (.dup, 1) := rfl
theorem hj276_116 : pi_fetch mc_276 116 = some (.getfield 433, 3) := rfl
theorem hj276_119 : pi_fetch mc_276 119 = some (.iconst 1, 1) := rfl
theorem hj276_120 : pi_fetch mc_276 120 = some (.iadd, 1) := rfl
theorem hj276_121 : pi_fetch mc_276 121 = some (.putfield 433, 3) := rfl
theorem hj276_124 : pi_fetch mc_276 124 = some (.iconst 1, 1) := rfl
theorem hj276_125 : pi_fetch mc_276 125 = some (.ireturn, 1) := rfl
theorem hj276_126 : pi_fetch mc_276 126 = some (.aload_n 0, 1) := rfl
theorem hj276_127 : pi_fetch mc_276 127 = some (.iconst 1, 1) := rfl
theorem hj276_128 : pi_fetch mc_276 128 = some (.putfield 442, 3) := rfl
theorem hj276_131 : pi_fetch mc_276 131 = some (.iload_n 3, 1) := rfl
theorem hj276_132 : pi_fetch mc_276 132 = some (.iconst 2, 1) := rfl
theorem hj276_133 : pi_fetch mc_276 133 = some (.if_icmp .ge 12, 3) := rfl
theorem hj276_136 : pi_fetch mc_276 136 = some (.aload_n 0, 1) := rfl
theorem hj276_137 : pi_fetch mc_276 137 = some (.iload_n 3, 1) := rfl
theorem hj276_138 : pi_fetch mc_276 138 = some (.iconst 0, 1) := rfl
theorem hj276_139 : pi_fetch mc_276 139 = some (.iconst 0, 1) := rfl
theorem hj276_140 : pi_fetch mc_276 140 = some (.invokevirtual 430, 3) := rfl
theorem hj276_143 : pi_fetch mc_276 143 = some (.iconst 1, 1) := rfl
theorem hj276_144 : pi_fetch mc_276 144 = some (.ireturn, 1) := rfl
theorem hj276_145 : pi_fetch mc_276 145 = some (.iload_n 3, 1) := rfl
theorem hj276_146 : pi_fetch mc_276 146 = some (.iconst 5, 1) := rfl
theorem hj276_147 : pi_fetch mc_276 147 = some (.if_icmp .ge 94, 3) := rfl
theorem hj276_150 : pi_fetch mc_276 150 = some (.aload_n 0, 1) := rfl
theorem hj276_151 : pi_fetch mc_276 151 = some (.invokevirtual 195, 3) := rfl
theorem hj276_154 : pi_fetch mc_276 154 = some (.ifCond .ne 9, 3) := rfl
theorem hj276_157 : pi_fetch mc_276 157 = some (.aload_n 0, 1) := rfl
theorem hj276_158 : pi_fetch mc_276 158 = some (.iconst 1, 1) := rfl
theorem hj276_159 : pi_fetch mc_276 159 = some (.invokevirtual 178, 3) := rfl
theorem hj276_162 : pi_fetch mc_276 162 = some (.ireturn, 1) := rfl
theorem hj276_163 : pi_fetch mc_276 163 = some (.iload_n 3, 1) := rfl
theorem hj276_164 : pi_fetch mc_276 164 = some (.iconst 2, 1) := rfl
theorem hj276_165 : pi_fetch mc_276 165 = some (.if_icmp .ne 18, 3) := rfl
theorem hj276_168 : pi_fetch mc_276 168 = some (.aload_n 0, 1) := rfl
theorem hj276_169 : pi_fetch mc_276 169 = some (.bipush 15, 2) := rfl
theorem hj276_171 : pi_fetch mc_276 171 = some (.aload_n 0, 1) := rfl
theorem hj276_172 : pi_fetch mc_276 172 = some (.getfield 33, 3) := rfl
theorem hj276_175 : pi_fetch mc_276 175 = some (.iconst 3, 1) := rfl
theorem hj276_176 : pi_fetch mc_276 176 = some (.iaload, 1) := rfl
theorem hj276_177 : pi_fetch mc_276 177 = some (.invokevirtual 199, 3) := rfl
theorem hj276_180 : pi_fetch mc_276 180 = some (.goto 34, 3) := rfl
theorem hj276_183 : pi_fetch mc_276 183 = some (.iload_n 3, 1) := rfl
theorem hj276_184 : pi_fetch mc_276 184 = some (.iconst 3, 1) := rfl
theorem hj276_185 : pi_fetch mc_276 185 = some (.if_icmp .ne 18, 3) := rfl
theorem hj276_188 : pi_fetch mc_276 188 = some (.aload_n 0, 1) := rfl
theorem hj276_189 : pi_fetch mc_276 189 = some (.bipush 10, 2) := rfl
theorem hj276_191 : pi_fetch mc_276 191 = some (.aload_n 0, 1) := rfl
theorem hj276_192 : pi_fetch mc_276 192 = some (.getfield 33, 3) := rfl
theorem hj276_195 : pi_fetch mc_276 195 = some (.iconst 2, 1) := rfl
theorem hj276_196 : pi_fetch mc_276 196 = some (.iaload, 1) := rfl
theorem hj276_197 : pi_fetch mc_276 197 = some (.invokevirtual 199, 3) := rfl
theorem hj276_200 : pi_fetch mc_276 200 = some (.goto 14, 3) := rfl
theorem hj276_203 : pi_fetch mc_276 203 = some (.aload_n 0, 1) := rfl
theorem hj276_204 : pi_fetch mc_276 204 = some (.iconst 0, 1) := rfl
theorem hj276_205 : pi_fetch mc_276 205 = some (.aload_n 0, 1) := rfl
theorem hj276_206 : pi_fetch mc_276 206 = some (.getfield 33, 3) := rfl
theorem hj276_209 : pi_fetch mc_276 209 = some (.iconst 0, 1) := rfl
theorem hj276_210 : pi_fetch mc_276 210 = some (.iaload, 1) := rfl
theorem hj276_211 : pi_fetch mc_276 211 = some (.invokevirtual 199, 3) := rfl
theorem hj276_214 : pi_fetch mc_276 214 = some (.istore 4, 2) := rfl
theorem hj276_216 : pi_fetch mc_276 216 = some (.iload 4, 2) := rfl
theorem hj276_218 : pi_fetch mc_276 218 = some (.ifCond .ge 9, 3) := rfl
theorem hj276_221 : pi_fetch mc_276 221 = some (.aload_n 0, 1) := rfl
theorem hj276_222 : pi_fetch mc_276 222 = some (.iconst 3, 1) := rfl
theorem hj276_223 : pi_fetch mc_276 223 = some (.invokevirtual 178, 3) := rfl
theorem hj276_226 : pi_fetch mc_276 226 = some (.ireturn, 1) := rfl
theorem hj276_227 : pi_fetch mc_276 227 = some (.aload_n 0, 1) := rfl
theorem hj276_228 : pi_fetch mc_276 228 = some (.iload_n 3, 1) := rfl
theorem hj276_229 : pi_fetch mc_276 229 = some (.iconst 0, 1) := rfl
theorem hj276_230 : pi_fetch mc_276 230 = some (.iload 4, 2) := rfl
theorem hj276_232 : pi_fetch mc_276 232 = some (.invokevirtual 430, 3) := rfl
theorem hj276_235 : pi_fetch mc_276 235 = some (.aload_n 0, 1) := rfl
theorem hj276_236 : pi_fetch mc_276 236 = some (.invokevirtual 181, 3) := rfl
theorem hj276_239 : pi_fetch mc_276 239 = some (.iconst 1, 1) := rfl
theorem hj276_240 : pi_fetch mc_276 240 = some (.ireturn, 1) := rfl
theorem hj276_241 : pi_fetch mc_276 241 = some (.aload_n 0, 1) := rfl
theorem hj276_242 : pi_fetch mc_276 242 = some (.getfield 152, 3) := rfl
theorem hj276_245 : pi_fetch mc_276 245 = some (.iconst 3, 1) := rfl
theorem hj276_246 : pi_fetch mc_276 246 = some (.if_icmp .ne 21, 3) := rfl
theorem hj276_249 : pi_fetch mc_276 249 = some (.aload_n 0, 1) := rfl
theorem hj276_250 : pi_fetch mc_276 250 = some (.getfield 162, 3) := rfl
theorem hj276_253 : pi_fetch mc_276 253 = some (.bipush 60, 2) := rfl
theorem hj276_255 : pi_fetch mc_276 255 = some (.if_icmp .lt 12, 3) := rfl
theorem hj276_258 : pi_fetch mc_276 258 = some (.aload_n 0, 1) := rfl
theorem hj276_259 : pi_fetch mc_276 259 = some (.getfield 162, 3) := rfl
theorem hj276_262 : pi_fetch mc_276 262 = some (.bipush 62, 2) := rfl
theorem hj276_264 : pi_fetch mc_276 264 = some (.if_icmp .le 9, 3) := rfl
theorem hj276_267 : pi_fetch mc_276 267 = some (.aload_n 0, 1) := rfl
theorem hj276_268 : pi_fetch mc_276 268 = some (.iconst 1, 1) := rfl
theorem hj276_269 : pi_fetch mc_276 269 = some (.invokevirtual 178, 3) := rfl
theorem hj276_272 : pi_fetch mc_276 272 = some (.ireturn, 1) := rfl
theorem hj276_273 : pi_fetch mc_276 273 = some (.aload_n 0, 1) := rfl
theorem hj276_274 : pi_fetch mc_276 274 = some (.getfield 162, 3) := rfl
theorem hj276_277 : pi_fetch mc_276 277 = some (.istore 4, 2) := rfl
theorem hj276_279 : pi_fetch mc_276 279 = some (.aload_n 0, 1) := rfl
theorem hj276_280 : pi_fetch mc_276 280 = some (.invokevirtual 181, 3) := rfl
theorem hj276_283 : pi_fetch mc_276 283 = some (.aload_n 0, 1) := rfl
theorem hj276_284 : pi_fetch mc_276 284 = some (.getfield 152, 3) := rfl
theorem hj276_287 : pi_fetch mc_276 287 = some (.iconst 2, 1) := rfl
theorem hj276_288 : pi_fetch mc_276 288 = some (.if_icmp .eq 9, 3) := rfl
theorem hj276_291 : pi_fetch mc_276 291 = some (.aload_n 0, 1) := rfl
theorem hj276_292 : pi_fetch mc_276 292 = some (.iconst 1, 1) := rfl
theorem hj276_293 : pi_fetch mc_276 293 = some (.invokevirtual 178, 3) := rfl
theorem hj276_296 : pi_fetch mc_276 296 = some (.ireturn, 1) := rfl
theorem hj276_297 : pi_fetch mc_276 297 = some (.aload_n 0, 1) := rfl
theorem hj276_298 : pi_fetch mc_276 298 = some (.iload_n 3, 1) := rfl
theorem hj276_299 : pi_fetch mc_276 299 = some (.iload 4, 2) := rfl
theorem hj276_301 : pi_fetch mc_276 301 = some (.aload_n 0, 1) := rfl
theorem hj276_302 : pi_fetch mc_276 302 = some (.getfield 162, 3) := rfl
theorem hj276_305 : pi_fetch mc_276 305 = some (.invokevirtual 430, 3) := rfl
theorem hj276_308 : pi_fetch mc_276 308 = some (.aload_n 0, 1) := rfl
theorem hj276_309 : pi_fetch mc_276 309 = some (.invokevirtual 181, 3) := rfl
theorem hj276_312 : pi_fetch mc_276 312 = some (.iconst 1, 1) := rfl
theorem hj276_313 : pi_fetch mc_276 313 = some (.ireturn, 1) := rfl
theorem kwx_17 : (28530 : Int64) = Int64.ofNat (tq_c256 (tq_kw.getD 17 [])) := by decide +kernel
theorem kwx_18 : (6385252 : Int64) = Int64.ofNat (tq_c256 (tq_kw.getD 18 [])) := by decide +kernel
theorem kwx_19 : (7237492 : Int64) = Int64.ofNat (tq_c256 (tq_kw.getD 19 [])) := by decide +kernel
theorem kwx_20 : (422725643876 : Int64) = Int64.ofNat (tq_c256 (tq_kw.getD 20 [])) := by decide +kernel
theorem kwx_21 : (1718773093 : Int64) = Int64.ofNat (tq_c256 (tq_kw.getD 21 [])) := by decide +kernel
theorem kwx_22 : (422776761956 : Int64) = Int64.ofNat (tq_c256 (tq_kw.getD 22 [])) := by decide +kernel
theorem kwx_23 : (7168377 : Int64) = Int64.ofNat (tq_c256 (tq_kw.getD 23 [])) := by decide +kernel
theorem kwx_24 : (26990 : Int64) = Int64.ofNat (tq_c256 (tq_kw.getD 24 [])) := by decide +kernel
theorem kwx_25 : (495689623668 : Int64) = Int64.ofNat (tq_c256 (tq_kw.getD 25 [])) := by decide +kernel
theorem kwx_26 : (512970876019 : Int64) = Int64.ofNat (tq_c256 (tq_kw.getD 26 [])) := by decide +kernel
theorem kwx_27 : (6580580 : Int64) = Int64.ofNat (tq_c256 (tq_kw.getD 27 [])) := by decide +kernel
theorem kwx_28 : (121450625394034 : Int64) = Int64.ofNat (tq_c256 (tq_kw.getD 28 [])) := by decide +kernel
def so_N : af_M := [(61, 4, 5), (61, 11, 19), (61, 36, 41), (65, 0, 135), (74, 0, 45)]
theorem sW_30 : ∀ {S : List Nat}, sW S → ∀ x ∈ S, x < 30
  | [], _, x, hx => by cases hx
  | y :: S, h, x, hx => by
    rcases List.mem_cons.mp hx with rfl | q
    · have := h.1; omega
    · exact sW_30 h.2.2 x q
/-- what operand and behind do -/
def so_P (tp : Nat → Nat) (B : Nat) (F : sn_R) (w : pi_W) (r : Option Value) (w' : pi_W) : Prop := af_Conf aw_Sh w' ∧ af_Fr so_N w w' ∧ ((r = some (.int 1) ∧ gv w' 61 15 = gv w 61 15 ∧ ∃ (h' : Bool) (K' : List Bool) (n' : Nat) (t' : tq_T), F = .inr (.inr (h', K', n', t')) ∧ MT tp B 200 w' t' ∧ gv w' 61 40 = tq_b h' ∧ ∃ c' S', SN w' (if h' = true then 1 else 0) K' n' c' S') ∨ (r = some (.int 0) ∧ ∃ k p, F = .inl (k, p) ∧ FM w' k p))
theorem sm_behind {d B n c : Nat} {tp : Nat → Nat} {K : List Bool} {S : List Nat} {w : pi_W} {t : tq_T} (h : MT tp B 200 w t) (hS : SN w 1 K n c S) (hwh : gv w 61 40 = tq_b true) (ht0 : ¬ t.1 = 0) : hq_F (d + 3) sm277 (so_P tp B (sn_wh tp B 200 K n t) w) (0, lv_args 0 [.ref 61], [], w) := by
  obtain ⟨a1, a2, a3, a4, a5, a6, a7, a8, a9⟩ := hS
  have g0 : pi_get (lv_args 0 [.ref 61]) 0 = some (.ref 61) := rfl
  have kc0 : (((Int8.ofInt 21).toInt32)).toInt = 21 := by decide
  have kc1 : (((Int8.ofInt 22).toInt32)).toInt = 22 := by decide
  have kc2 : (((Int8.ofInt 41).toInt32)).toInt = 41 := by decide
  have kc3 : ((0 : Int32)).toInt = 0 := by decide
  have kc4 : ((1 : Int32)).toInt = 1 := by decide
  have kc5 : ((Int32.ofInt 0)).toInt = 0 := by decide
  have kc6 : ((Int32.ofInt 1)).toInt = 1 := by decide
  have kz := sy_z0
  refine hq_F.st (s' := (1, _, _, _)) hj277_0 rfl rfl rfl (hs_al g0) ?_
  refine hq_F.call hj277_1 rfl rfl si_11_445 (by decide) (by decide) sz_274 (sy_argsV h.1 sh_61 rfl rfl rfl (Nat.le_of_ble_eq_true rfl) rfl (Nat.le_of_ble_eq_true rfl) rfl (by decide)) (sm_nots (d := d + 1) S h.1 a1 a3 a5 (by rw [a4, a6]) (by omega) (sW_30 a7) rfl) (fun _ _ q => by rw [q.2.1.1, h.1.1]) ?_
  rintro r1 w1 ⟨rfl, hC1, F1, c1, b1, b3, b5, b4, bc⟩
  try dsimp only
  have h1 : MT tp B 200 w1 t := h.fr hC1 F1 rfl
  have eD := sD_F a7
  rw [a6] at eD
  refine hq_F.st (s' := (5, _, _, _)) hj277_4 rfl rfl rfl (hs_al g0) ?_
  refine hq_F.st (s' := (8, _, _, _)) hj277_5 rfl rfl rfl rfl ?_
  refine hq_F.call hj277_8 rfl rfl si_11_206 (by decide) (by decide) sz_178 (sy_argsV hC1 sh_61 rfl rfl rfl (Nat.le_of_ble_eq_true rfl) rfl (Nat.le_of_ble_eq_true rfl) rfl (by decide)) (ml_isW (k := 18) h1 (by decide) kwx_18) (fun _ _ q => by rw [q.1]) ?_
  rintro r8 w1 ⟨rfl, rfl⟩
  try dsimp only
  by_cases hk18 : ls_k t = ((18 : Nat) : Int)
  · rw [decide_eq_true hk18, show tq_b true = (1 : Int32) from rfl]
    refine hq_F.st (s' := (24, _, _, _)) hj277_11 rfl rfl rfl (hs_if (ci_ne (by omega)) rfl) ?_
    refine hq_F.st (s' := (25, _, _, _)) hj277_24 rfl rfl rfl (hs_al g0) ?_
    refine hq_F.st (s' := (26, _, _, _)) hj277_25 rfl rfl rfl (hs_al g0) ?_
    refine hq_F.st (s' := (29, _, _, _)) hj277_26 rfl rfl rfl rfl ?_
    refine hq_F.call hj277_29 rfl rfl si_11_206 (by decide) (by decide) sz_178 (sy_argsV hC1 sh_61 rfl rfl rfl (Nat.le_of_ble_eq_true rfl) rfl (Nat.le_of_ble_eq_true rfl) rfl (by decide)) (ml_isW (k := 18) h1 (by decide) kwx_18) (fun _ _ q => by rw [q.1]) ?_
    rintro r29 w1 ⟨rfl, rfl⟩
    try dsimp only
    rw [decide_eq_true (show ls_k t = ((18 : Nat) : Int) from hk18), show tq_b true = (1 : Int32) from rfl]
    refine hq_F.st (s' := (35, _, _, _)) hj277_32 rfl rfl rfl (hs_ifn (t := 40) (ci_eqn (by omega)) rfl) ?_
    refine hq_F.st (s' := (37, _, _, _)) hj277_35 rfl rfl rfl rfl ?_
    refine hq_F.st (s' := (42, _, _, _)) hj277_37 rfl rfl rfl rfl ?_
    refine hq_F.call hj277_42 rfl rfl si_11_448 (by decide) (by decide) sz_273 (sy_argsV hC1 sh_61 rfl rfl rfl (Nat.le_of_ble_eq_true rfl) rfl (Nat.le_of_ble_eq_true rfl) rfl (by decide)) (sm_joins (d := d + 1) (till := 21) (by decide) (sD S) hC1 b1 b3 b5 (by omega) (sW_30 (sD_W a7)) rfl rfl) (fun _ _ q => by rw [q.2.1.1, hC1.1]) ?_
    rintro r42 w2 ⟨rfl, hC2, F2, c2, d1, d3, d5, dc⟩
    try dsimp only
    have h2 : MT tp B 200 w2 t := h1.fr hC2 F2 rfl
    obtain ⟨jW, jH⟩ := sJ2_W (till := 21) (sD_W a7) (sD_h S)
    have jF := (sJ2_F (till := 21) (sD S)).trans eD
    refine hq_F.st (s' := (46, _, _, _)) hj277_45 rfl rfl rfl (hs_al g0) ?_
    refine hq_F.st (s' := (49, _, _, _)) hj277_46 rfl rfl rfl (hq_gf hC2 sh_61 sk_11_68 (hq_ref hC2 sh_61 (b := 74) rfl)) ?_
    refine hq_F.st (s' := (50, _, _, _)) hj277_49 rfl rfl rfl (hs_al g0) ?_
    refine hq_F.st (s' := (53, _, _, _)) hj277_50 rfl rfl rfl (hq_gf hC2 sh_61 sk_11_427 (sy_v hC2 (by decide) rfl)) ?_
    have jl : (sJ2 21 (sD S)).length ≤ 44 := by omega
    rw [show gv w2 61 38 = Int32.ofNat (sJ2 21 (sD S)).length from hn_e d3 (by omega)]
    refine hq_F.st (s' := (54, _, _, _)) hj277_53 rfl rfl rfl (hs_al g0) ?_
    refine hq_F.st (s' := (57, _, _, _)) hj277_54 rfl rfl rfl rfl ?_
    refine hq_F.call hj277_57 rfl rfl si_11_206 (by decide) (by decide) sz_178 (sy_argsV hC2 sh_61 rfl rfl rfl (Nat.le_of_ble_eq_true rfl) rfl (Nat.le_of_ble_eq_true rfl) rfl (by decide)) (ml_isW (k := 18) h2 (by decide) kwx_18) (fun _ _ q => by rw [q.1]) ?_
    rintro r57 w2 ⟨rfl, rfl⟩
    try dsimp only
    rw [decide_eq_true (show ls_k t = ((18 : Nat) : Int) from hk18), show tq_b true = (1 : Int32) from rfl]
    refine hq_F.st (s' := (63, _, _, _)) hj277_60 rfl rfl rfl (hs_ifn (t := 68) (ci_eqn (by omega)) rfl) ?_
    refine hq_F.st (s' := (65, _, _, _)) hj277_63 rfl rfl rfl rfl ?_
    refine hq_F.st (s' := (70, _, _, _)) hj277_65 rfl rfl rfl rfl ?_
    refine sy_isv hj277_70 hC2 sh_74 (n := (sJ2 21 (sD S)).length) (hn_t (by omega)) (by omega) (sy_full (sb_74 _ (by omega))) (fun w3 hC3 hw3 => ?_)
    refine hq_F.st (s' := (72, _, _, _)) hj277_71 rfl rfl rfl (hs_al g0) ?_
    refine hq_F.st (s' := (73, _, _, _)) hj277_72 rfl rfl rfl rfl ?_
    refine hq_F.st (s' := (76, _, _, _)) hj277_73 rfl rfl rfl (hq_gf hC3 sh_61 sk_11_427 (sy_v hC3 (by decide) rfl)) ?_
    rw [show gv w3 61 38 = Int32.ofNat (sJ2 21 (sD S)).length from by rw [wpv hw3, if_neg (by omega)]; exact hn_e d3 (by omega)]
    refine hq_F.st (s' := (77, _, _, _)) hj277_76 rfl rfl rfl rfl ?_
    refine hq_F.st (s' := (78, _, _, _)) hj277_77 rfl rfl rfl rfl ?_
    rw [hn_s]
    have tl1 : (Int32.ofNat ((sJ2 21 (sD S)).length + 1)).toInt = (((sJ2 21 (sD S)).length + 1 : Nat) : Int) := hn_t (by omega)
    refine sy_pf hj277_78 hC3 sh_61 sk_11_427 (lo := 0) (hi := 45) rfl (by omega) rfl rfl rfl (fun w21 hC21 hw21 => ?_)
    refine hq_F.st (s' := (82, _, _, _)) hj277_81 rfl rfl rfl (hs_al g0) ?_
    refine hq_F.st (s' := (83, _, _, _)) hj277_82 rfl rfl rfl rfl ?_
    refine sy_pf hj277_83 hC21 sh_61 sk_11_442 (lo := 0) (hi := 1) rfl (by omega) (by decide) (by decide) rfl (fun w22 hC22 hw22 => ?_)
    refine hq_F.st (s' := (87, _, _, _)) hj277_86 rfl rfl rfl (hs_al g0) ?_
    refine hq_F.call hj277_87 rfl rfl si_11_181 (by decide) (by decide) sz_176 (sy_argsV hC22 sh_61 rfl rfl rfl (Nat.le_of_ble_eq_true rfl) rfl (Nat.le_of_ble_eq_true rfl) rfl (by decide)) (mt_adv (d := d + 1) (((h2.fr hC3 (wpF hw3) rfl).fr hC21 (wpF hw21) rfl).fr hC22 (wpF hw22) rfl) (by have := ls_k2 (t := t) (by omega); omega)) (fun _ _ q => by rw [q.2.1.1.1, hC22.1]) ?_
    rintro r87 w8 ⟨rfl, h8, F8⟩
    try dsimp only
    refine hq_F.st (s' := (91, _, _, _)) hj277_90 rfl rfl rfl rfl ?_
    refine hq_F.en hj277_91 rfl rfl ?_
    have hns : ¬ t.1 = 0 := by have := ls_k2 (t := t) (by omega); omega
    refine ⟨h8.1, ((F1.cov (by decide)).tr ((F2.cov (by decide)).tr (((hq_fr1 (lo := 0) (hi := 45) hw3 (by omega)).cov (by decide)).tr (((wpF hw21).cov (by decide)).tr (((wpF hw22).cov (by decide)).tr (F8.cov (by decide))))))), Or.inl ⟨rfl, by rw [gv_eq (F8 61 15 (by decide)), wpv hw22, if_neg (by decide), wpv hw21, if_neg (by decide), wpv hw3, if_neg (by omega), gv_eq (F2 61 15 (by decide)), gv_eq (F1 61 15 (by decide))], false, sn_dn K, n, tq_nx tp B 200 t, ?_, h8, ?_, c2, 21 :: (sJ2 21 (sD S)), ?_, ?_, ?_, ?_, ?_, ?_, ?_, ?_, a9⟩⟩
    · unfold sn_wh; rw [if_neg hns]; exact if_pos (by omega)
    · rw [gv_eq (F8 61 40 (by decide)), wpv hw22, if_pos ⟨rfl, rfl⟩]; rfl
    · rw [gv_eq (F8 61 36 (by decide)), wpv hw22, if_neg (by decide), wpv hw21, if_neg (by decide), wpv hw3, if_neg (by omega)]; exact d1
    · rw [gv_eq (F8 61 37 (by decide)), wpv hw22, if_neg (by decide), wpv hw21, if_neg (by decide), wpv hw3, if_neg (by omega), gv_eq (F2 61 37 (by decide)), gv_eq (F1 61 37 (by decide))]; exact a2
    · rw [gv_eq (F8 61 38 (by decide)), wpv hw22, if_neg (by decide), wpv hw21, if_pos ⟨rfl, rfl⟩]; exact tl1
    · rw [gv_eq (F8 61 39 (by decide)), wpv hw22, if_neg (by decide), wpv hw21, if_neg (by decide), wpv hw3, if_neg (by omega), gv_eq (F2 61 39 (by decide)), b4, eD]
    · have q3 : sK w3 (21 :: (sJ2 21 (sD S))) := ⟨by rw [wpv hw3, if_pos ⟨rfl, rfl⟩]; rfl, d5.put hw3 (Nat.le_refl _)⟩
      exact ((q3.fr (wpF hw21) (by decide)).fr (wpF hw22) (by decide)).fr F8 (by decide)
    · rw [sF, if_neg (by decide), if_neg (by decide)]; exact jF
    · exact ⟨by decide, fun _ => jH, jW⟩
    · show c2 + ((sJ2 21 (sD S)).length + 1) + 0 ≤ 2 * n; omega
  · rw [decide_eq_false hk18, show tq_b false = (0 : Int32) from rfl]
    refine hq_F.st (s' := (14, _, _, _)) hj277_11 rfl rfl rfl (hs_ifn (t := 24) (ci_nen (by omega)) rfl) ?_
    refine hq_F.st (s' := (15, _, _, _)) hj277_14 rfl rfl rfl (hs_al g0) ?_
    refine hq_F.st (s' := (18, _, _, _)) hj277_15 rfl rfl rfl rfl ?_
    refine hq_F.call hj277_18 rfl rfl si_11_206 (by decide) (by decide) sz_178 (sy_argsV hC1 sh_61 rfl rfl rfl (Nat.le_of_ble_eq_true rfl) rfl (Nat.le_of_ble_eq_true rfl) rfl (by decide)) (ml_isW (k := 17) h1 (by decide) kwx_17) (fun _ _ q => by rw [q.1]) ?_
    rintro r18 w1 ⟨rfl, rfl⟩
    try dsimp only
    by_cases hk17 : ls_k t = ((17 : Nat) : Int)
    · rw [decide_eq_true hk17, show tq_b true = (1 : Int32) from rfl]
      refine hq_F.st (s' := (24, _, _, _)) hj277_21 rfl rfl rfl (hs_ifn (t := 92) (ci_eqn (by omega)) rfl) ?_
      refine hq_F.st (s' := (25, _, _, _)) hj277_24 rfl rfl rfl (hs_al g0) ?_
      refine hq_F.st (s' := (26, _, _, _)) hj277_25 rfl rfl rfl (hs_al g0) ?_
      refine hq_F.st (s' := (29, _, _, _)) hj277_26 rfl rfl rfl rfl ?_
      refine hq_F.call hj277_29 rfl rfl si_11_206 (by decide) (by decide) sz_178 (sy_argsV hC1 sh_61 rfl rfl rfl (Nat.le_of_ble_eq_true rfl) rfl (Nat.le_of_ble_eq_true rfl) rfl (by decide)) (ml_isW (k := 18) h1 (by decide) kwx_18) (fun _ _ q => by rw [q.1]) ?_
      rintro r29 w1 ⟨rfl, rfl⟩
      try dsimp only
      rw [decide_eq_false (show ¬ ls_k t = ((18 : Nat) : Int) from hk18), show tq_b false = (0 : Int32) from rfl]
      refine hq_F.st (s' := (40, _, _, _)) hj277_32 rfl rfl rfl (hs_if (ci_eq (by omega)) rfl) ?_
      refine hq_F.st (s' := (42, _, _, _)) hj277_40 rfl rfl rfl rfl ?_
      refine hq_F.call hj277_42 rfl rfl si_11_448 (by decide) (by decide) sz_273 (sy_argsV hC1 sh_61 rfl rfl rfl (Nat.le_of_ble_eq_true rfl) rfl (Nat.le_of_ble_eq_true rfl) rfl (by decide)) (sm_joins (d := d + 1) (till := 22) (by decide) (sD S) hC1 b1 b3 b5 (by omega) (sW_30 (sD_W a7)) rfl rfl) (fun _ _ q => by rw [q.2.1.1, hC1.1]) ?_
      rintro r42 w2 ⟨rfl, hC2, F2, c2, d1, d3, d5, dc⟩
      try dsimp only
      have h2 : MT tp B 200 w2 t := h1.fr hC2 F2 rfl
      obtain ⟨jW, jH⟩ := sJ2_W (till := 22) (sD_W a7) (sD_h S)
      have jF := (sJ2_F (till := 22) (sD S)).trans eD
      refine hq_F.st (s' := (46, _, _, _)) hj277_45 rfl rfl rfl (hs_al g0) ?_
      refine hq_F.st (s' := (49, _, _, _)) hj277_46 rfl rfl rfl (hq_gf hC2 sh_61 sk_11_68 (hq_ref hC2 sh_61 (b := 74) rfl)) ?_
      refine hq_F.st (s' := (50, _, _, _)) hj277_49 rfl rfl rfl (hs_al g0) ?_
      refine hq_F.st (s' := (53, _, _, _)) hj277_50 rfl rfl rfl (hq_gf hC2 sh_61 sk_11_427 (sy_v hC2 (by decide) rfl)) ?_
      have jl : (sJ2 22 (sD S)).length ≤ 44 := by omega
      rw [show gv w2 61 38 = Int32.ofNat (sJ2 22 (sD S)).length from hn_e d3 (by omega)]
      refine hq_F.st (s' := (54, _, _, _)) hj277_53 rfl rfl rfl (hs_al g0) ?_
      refine hq_F.st (s' := (57, _, _, _)) hj277_54 rfl rfl rfl rfl ?_
      refine hq_F.call hj277_57 rfl rfl si_11_206 (by decide) (by decide) sz_178 (sy_argsV hC2 sh_61 rfl rfl rfl (Nat.le_of_ble_eq_true rfl) rfl (Nat.le_of_ble_eq_true rfl) rfl (by decide)) (ml_isW (k := 18) h2 (by decide) kwx_18) (fun _ _ q => by rw [q.1]) ?_
      rintro r57 w2 ⟨rfl, rfl⟩
      try dsimp only
      rw [decide_eq_false (show ¬ ls_k t = ((18 : Nat) : Int) from hk18), show tq_b false = (0 : Int32) from rfl]
      refine hq_F.st (s' := (68, _, _, _)) hj277_60 rfl rfl rfl (hs_if (ci_eq (by omega)) rfl) ?_
      refine hq_F.st (s' := (70, _, _, _)) hj277_68 rfl rfl rfl rfl ?_
      refine sy_isv hj277_70 hC2 sh_74 (n := (sJ2 22 (sD S)).length) (hn_t (by omega)) (by omega) (sy_full (sb_74 _ (by omega))) (fun w3 hC3 hw3 => ?_)
      refine hq_F.st (s' := (72, _, _, _)) hj277_71 rfl rfl rfl (hs_al g0) ?_
      refine hq_F.st (s' := (73, _, _, _)) hj277_72 rfl rfl rfl rfl ?_
      refine hq_F.st (s' := (76, _, _, _)) hj277_73 rfl rfl rfl (hq_gf hC3 sh_61 sk_11_427 (sy_v hC3 (by decide) rfl)) ?_
      rw [show gv w3 61 38 = Int32.ofNat (sJ2 22 (sD S)).length from by rw [wpv hw3, if_neg (by omega)]; exact hn_e d3 (by omega)]
      refine hq_F.st (s' := (77, _, _, _)) hj277_76 rfl rfl rfl rfl ?_
      refine hq_F.st (s' := (78, _, _, _)) hj277_77 rfl rfl rfl rfl ?_
      rw [hn_s]
      have tl1 : (Int32.ofNat ((sJ2 22 (sD S)).length + 1)).toInt = (((sJ2 22 (sD S)).length + 1 : Nat) : Int) := hn_t (by omega)
      refine sy_pf hj277_78 hC3 sh_61 sk_11_427 (lo := 0) (hi := 45) rfl (by omega) rfl rfl rfl (fun w21 hC21 hw21 => ?_)
      refine hq_F.st (s' := (82, _, _, _)) hj277_81 rfl rfl rfl (hs_al g0) ?_
      refine hq_F.st (s' := (83, _, _, _)) hj277_82 rfl rfl rfl rfl ?_
      refine sy_pf hj277_83 hC21 sh_61 sk_11_442 (lo := 0) (hi := 1) rfl (by omega) (by decide) (by decide) rfl (fun w22 hC22 hw22 => ?_)
      refine hq_F.st (s' := (87, _, _, _)) hj277_86 rfl rfl rfl (hs_al g0) ?_
      refine hq_F.call hj277_87 rfl rfl si_11_181 (by decide) (by decide) sz_176 (sy_argsV hC22 sh_61 rfl rfl rfl (Nat.le_of_ble_eq_true rfl) rfl (Nat.le_of_ble_eq_true rfl) rfl (by decide)) (mt_adv (d := d + 1) (((h2.fr hC3 (wpF hw3) rfl).fr hC21 (wpF hw21) rfl).fr hC22 (wpF hw22) rfl) (by have := ls_k2 (t := t) (by omega); omega)) (fun _ _ q => by rw [q.2.1.1.1, hC22.1]) ?_
      rintro r87 w8 ⟨rfl, h8, F8⟩
      try dsimp only
      refine hq_F.st (s' := (91, _, _, _)) hj277_90 rfl rfl rfl rfl ?_
      refine hq_F.en hj277_91 rfl rfl ?_
      have hns : ¬ t.1 = 0 := by have := ls_k2 (t := t) (by omega); omega
      refine ⟨h8.1, ((F1.cov (by decide)).tr ((F2.cov (by decide)).tr (((hq_fr1 (lo := 0) (hi := 45) hw3 (by omega)).cov (by decide)).tr (((wpF hw21).cov (by decide)).tr (((wpF hw22).cov (by decide)).tr (F8.cov (by decide))))))), Or.inl ⟨rfl, by rw [gv_eq (F8 61 15 (by decide)), wpv hw22, if_neg (by decide), wpv hw21, if_neg (by decide), wpv hw3, if_neg (by omega), gv_eq (F2 61 15 (by decide)), gv_eq (F1 61 15 (by decide))], false, sn_dn K, n, tq_nx tp B 200 t, ?_, h8, ?_, c2, 22 :: (sJ2 22 (sD S)), ?_, ?_, ?_, ?_, ?_, ?_, ?_, ?_, a9⟩⟩
      · unfold sn_wh; rw [if_neg hns]; exact if_pos (by omega)
      · rw [gv_eq (F8 61 40 (by decide)), wpv hw22, if_pos ⟨rfl, rfl⟩]; rfl
      · rw [gv_eq (F8 61 36 (by decide)), wpv hw22, if_neg (by decide), wpv hw21, if_neg (by decide), wpv hw3, if_neg (by omega)]; exact d1
      · rw [gv_eq (F8 61 37 (by decide)), wpv hw22, if_neg (by decide), wpv hw21, if_neg (by decide), wpv hw3, if_neg (by omega), gv_eq (F2 61 37 (by decide)), gv_eq (F1 61 37 (by decide))]; exact a2
      · rw [gv_eq (F8 61 38 (by decide)), wpv hw22, if_neg (by decide), wpv hw21, if_pos ⟨rfl, rfl⟩]; exact tl1
      · rw [gv_eq (F8 61 39 (by decide)), wpv hw22, if_neg (by decide), wpv hw21, if_neg (by decide), wpv hw3, if_neg (by omega), gv_eq (F2 61 39 (by decide)), b4, eD]
      · have q3 : sK w3 (22 :: (sJ2 22 (sD S))) := ⟨by rw [wpv hw3, if_pos ⟨rfl, rfl⟩]; rfl, d5.put hw3 (Nat.le_refl _)⟩
        exact ((q3.fr (wpF hw21) (by decide)).fr (wpF hw22) (by decide)).fr F8 (by decide)
      · rw [sF, if_neg (by decide), if_neg (by decide)]; exact jF
      · exact ⟨by decide, fun _ => jH, jW⟩
      · show c2 + ((sJ2 22 (sD S)).length + 1) + 0 ≤ 2 * n; omega
    · rw [decide_eq_false hk17, show tq_b false = (0 : Int32) from rfl]
      refine hq_F.st (s' := (92, _, _, _)) hj277_21 rfl rfl rfl (hs_if (ci_eq (by omega)) rfl) ?_
      refine hq_F.st (s' := (93, _, _, _)) hj277_92 rfl rfl rfl (hs_al g0) ?_
      refine hq_F.st (s' := (95, _, _, _)) hj277_93 rfl rfl rfl rfl ?_
      refine hq_F.call hj277_95 rfl rfl si_11_448 (by decide) (by decide) sz_273 (sy_argsV hC1 sh_61 rfl rfl rfl (Nat.le_of_ble_eq_true rfl) rfl (Nat.le_of_ble_eq_true rfl) rfl (by decide)) (sm_joins (d := d + 1) (till := 22) (by decide) (sD S) hC1 b1 b3 b5 (by omega) (sW_30 (sD_W a7)) rfl rfl) (fun _ _ q => by rw [q.2.1.1, hC1.1]) ?_
      rintro r95 w2 ⟨rfl, hC2, F2, c2, d1, d3, d5, dc⟩
      try dsimp only
      have h2 : MT tp B 200 w2 t := h1.fr hC2 F2 rfl
      obtain ⟨jW, jH⟩ := sJ2_W (till := 22) (sD_W a7) (sD_h S)
      have jF := (sJ2_F (till := 22) (sD S)).trans eD
      refine hq_F.st (s' := (99, _, _, _)) hj277_98 rfl rfl rfl (hs_al g0) ?_
      refine hq_F.st (s' := (101, _, _, _)) hj277_99 rfl rfl rfl rfl ?_
      refine hq_F.call hj277_101 rfl rfl si_11_175 (by decide) (by decide) sz_179 (sy_argsV hC2 sh_61 rfl rfl rfl (Nat.le_of_ble_eq_true rfl) rfl (Nat.le_of_ble_eq_true rfl) rfl (by decide)) (mt_isS (c := 41) h2 (by decide)) (fun _ _ q => by rw [q.1]) ?_
      rintro r101 w2 ⟨rfl, rfl⟩
      try dsimp only
      rw [show decide (t.1 = 4 ∧ t.2.2.1 = 41) = sn_cl t from rfl]
      cases hcl : sn_cl t
      · rw [show tq_b false = (0 : Int32) from rfl]
        refine hq_F.st (s' := (114, _, _, _)) hj277_104 rfl rfl rfl (hs_if (ci_eq (by omega)) rfl) ?_
        refine hq_F.st (s' := (115, _, _, _)) hj277_114 rfl rfl rfl (hs_al g0) ?_
        refine hq_F.st (s' := (116, _, _, _)) hj277_115 rfl rfl rfl rfl ?_
        refine hq_F.call hj277_116 rfl rfl si_11_178 (by decide) (by decide) sz_177 (sy_argsV hC2 sh_61 rfl rfl rfl (Nat.le_of_ble_eq_true rfl) rfl (Nat.le_of_ble_eq_true rfl) rfl (by decide)) (mt_bad h2 ((Int32.ofInt 1))) (fun _ _ q => by rw [q.2.1.1.1, hC2.1]) ?_
        rintro r116 w9 ⟨rfl, k1, k2, k3, k4⟩
        try dsimp only
        refine hq_F.en hj277_119 rfl rfl ?_
        exact ⟨k1.1, (F1.cov (by decide)).tr ((F2.cov (by decide)).tr (k2.cov (by decide))), Or.inr ⟨rfl, 1, t.2.1, by unfold sn_wh; rw [if_neg ht0, if_neg (by omega)]; exact if_neg (fun q => by rw [hcl] at q; exact absurd q.1 (by decide)), by rw [k3]; decide, k4⟩⟩
      · rw [show tq_b true = (1 : Int32) from rfl]
        refine hq_F.st (s' := (107, _, _, _)) hj277_104 rfl rfl rfl (hs_ifn (t := 114) (ci_eqn (by omega)) rfl) ?_
        refine hq_F.st (s' := (108, _, _, _)) hj277_107 rfl rfl rfl (hs_al g0) ?_
        refine hq_F.st (s' := (111, _, _, _)) hj277_108 rfl rfl rfl (hq_gf hC2 sh_61 sk_11_427 (sy_v hC2 (by decide) rfl)) ?_
        by_cases b111 : ¬ ((gv w2 61 38)).toInt = 0
        · skip
          refine hq_F.st (s' := (120, _, _, _)) hj277_111 rfl rfl rfl (hs_if (ci_ne (by omega)) rfl) ?_
          obtain ⟨T, eT⟩ : ∃ T, (sJ2 22 (sD S)) = 23 :: T := by
            rcases sJ2_22 (sD_W a7) (sD_h S) with q | q
            · rw [q] at d3; exact absurd d3 (by simp only [List.length_nil]; omega)
            · exact q
          have dT : (gv w2 61 38).toInt = ((T.length + 1 : Nat) : Int) := by rw [d3, eT]; rfl
          have lT : T.length + 1 ≤ 44 := by have := congrArg List.length eT; simp only [List.length_cons] at this; omega
          have lK : (sF T).length ≤ T.length := sF_len T
          refine hq_F.st (s' := (121, _, _, _)) hj277_120 rfl rfl rfl (hs_al g0) ?_
          refine hq_F.st (s' := (122, _, _, _)) hj277_121 rfl rfl rfl rfl ?_
          refine hq_F.st (s' := (125, _, _, _)) hj277_122 rfl rfl rfl (hq_gf hC2 sh_61 sk_11_427 (sy_v hC2 (by decide) rfl)) ?_
          rw [show gv w2 61 38 = Int32.ofNat (T.length + 1) from hn_e dT (by omega)]
          refine hq_F.st (s' := (126, _, _, _)) hj277_125 rfl rfl rfl rfl ?_
          refine hq_F.st (s' := (127, _, _, _)) hj277_126 rfl rfl rfl rfl ?_
          rw [hn_p]
          have tT : (Int32.ofNat T.length).toInt = (T.length : Int) := hn_t (by omega)
          refine sy_pf hj277_127 hC2 sh_61 sk_11_427 (lo := 0) (hi := 45) rfl (by omega) rfl rfl rfl (fun w21 hC21 hw21 => ?_)
          refine hq_F.st (s' := (131, _, _, _)) hj277_130 rfl rfl rfl (hs_al g0) ?_
          refine hq_F.st (s' := (132, _, _, _)) hj277_131 rfl rfl rfl rfl ?_
          refine hq_F.st (s' := (135, _, _, _)) hj277_132 rfl rfl rfl (hq_gf hC21 sh_61 sk_11_433 (sy_v hC21 (by decide) rfl)) ?_
          have q132 : (gv w21 61 39).toInt = (gv w2 61 39).toInt := by rw [wpv hw21, if_neg (by decide)]
          rw [show gv w21 61 39 = Int32.ofNat ((sF T).length + 1 + 1) from by rw [wpv hw21, if_neg (by decide), gv_eq (F2 61 39 (by decide))]; exact hn_e (by rw [b4, eD, show sn_dn K = true :: sF T from by rw [← jF, eT]; rfl]; rfl) (by omega)]
          refine hq_F.st (s' := (136, _, _, _)) hj277_135 rfl rfl rfl rfl ?_
          refine hq_F.st (s' := (137, _, _, _)) hj277_136 rfl rfl rfl rfl ?_
          rw [hn_p]
          have tK : (Int32.ofNat ((sF T).length + 1)).toInt = (((sF T).length + 1 : Nat) : Int) := hn_t (by omega)
          refine sy_pf hj277_137 hC21 sh_61 sk_11_433 (lo := -2147483648) (hi := 2147483647) rfl (af_i32 _) rfl rfl rfl (fun w22 hC22 hw22 => ?_)
          refine hq_F.st (s' := (141, _, _, _)) hj277_140 rfl rfl rfl (hs_al g0) ?_
          refine hq_F.call hj277_141 rfl rfl si_11_181 (by decide) (by decide) sz_176 (sy_argsV hC22 sh_61 rfl rfl rfl (Nat.le_of_ble_eq_true rfl) rfl (Nat.le_of_ble_eq_true rfl) rfl (by decide)) (mt_adv (d := d + 1) ((h2.fr hC21 (wpF hw21) rfl).fr hC22 (wpF hw22) rfl) (by have := of_decide_eq_true hcl; omega)) (fun _ _ q => by rw [q.2.1.1.1, hC22.1]) ?_
          rintro r141 w8 ⟨rfl, h8, F8⟩
          try dsimp only
          refine hq_F.st (s' := (145, _, _, _)) hj277_144 rfl rfl rfl rfl ?_
          refine hq_F.en hj277_145 rfl rfl ?_
          have eK : sn_dn K = true :: sF T := by rw [← jF, eT]; rfl
          have jW2 : sW (23 :: T) := by rw [← eT]; exact jW
          have d52 : sK w2 (23 :: T) := by rw [← eT]; exact d5
          refine ⟨h8.1, (F1.cov (by decide)).tr ((F2.cov (by decide)).tr (((wpF hw21).cov (by decide)).tr (((wpF hw22).cov (by decide)).tr (F8.cov (by decide))))), Or.inl ⟨rfl, by rw [gv_eq (F8 61 15 (by decide)), wpv hw22, if_neg (by decide), wpv hw21, if_neg (by decide), gv_eq (F2 61 15 (by decide)), gv_eq (F1 61 15 (by decide))], true, (sn_dn K).tail, n, tq_nx tp B 200 t, ?_, h8, ?_, c2, T, ?_, ?_, ?_, ?_, ?_, ?_, ?_, ?_, a9⟩⟩
          · unfold sn_wh; rw [if_neg ht0, if_neg (by omega)]; exact if_pos ⟨hcl, by rw [eK]; simp⟩
          · rw [gv_eq (F8 61 40 (by decide)), wpv hw22, if_neg (by decide), wpv hw21, if_neg (by decide), gv_eq (F2 61 40 (by decide)), gv_eq (F1 61 40 (by decide))]; exact hwh
          · rw [gv_eq (F8 61 36 (by decide)), wpv hw22, if_neg (by decide), wpv hw21, if_neg (by decide)]; exact d1
          · rw [gv_eq (F8 61 37 (by decide)), wpv hw22, if_neg (by decide), wpv hw21, if_neg (by decide), gv_eq (F2 61 37 (by decide)), gv_eq (F1 61 37 (by decide))]; exact a2
          · rw [gv_eq (F8 61 38 (by decide)), wpv hw22, if_neg (by decide), wpv hw21, if_pos ⟨rfl, rfl⟩]; exact tT
          · rw [gv_eq (F8 61 39 (by decide)), wpv hw22, if_pos ⟨rfl, rfl⟩, eK]; exact tK
          · exact ((d52.2.fr (wpF hw21) (by decide)).fr (wpF hw22) (by decide)).fr F8 (by decide)
          · rw [eK]; rfl
          · exact jW2.2.2
          · show c2 + T.length + 1 ≤ 2 * n; rw [eT] at dc; simp only [List.length_cons] at dc; omega
        · skip
          refine hq_F.st (s' := (114, _, _, _)) hj277_111 rfl rfl rfl (hs_ifn (t := 120) (ci_nen (by omega)) rfl) ?_
          refine hq_F.st (s' := (115, _, _, _)) hj277_114 rfl rfl rfl (hs_al g0) ?_
          refine hq_F.st (s' := (116, _, _, _)) hj277_115 rfl rfl rfl rfl ?_
          refine hq_F.call hj277_116 rfl rfl si_11_178 (by decide) (by decide) sz_177 (sy_argsV hC2 sh_61 rfl rfl rfl (Nat.le_of_ble_eq_true rfl) rfl (Nat.le_of_ble_eq_true rfl) rfl (by decide)) (mt_bad h2 ((Int32.ofInt 1))) (fun _ _ q => by rw [q.2.1.1.1, hC2.1]) ?_
          rintro r116 w9 ⟨rfl, k1, k2, k3, k4⟩
          try dsimp only
          refine hq_F.en hj277_119 rfl rfl ?_
          exact ⟨k1.1, (F1.cov (by decide)).tr ((F2.cov (by decide)).tr (k2.cov (by decide))), Or.inr ⟨rfl, 1, t.2.1, by unfold sn_wh; rw [if_neg ht0, if_neg (by omega)]; exact if_neg (fun q => q.2 (by rw [← jF]; have := List.eq_nil_of_length_eq_zero (l := (sJ2 22 (sD S))) (by omega); rw [this]; rfl)), by rw [k3]; decide, k4⟩⟩
