/-! ===== diaries of the model, by hand ===== -/
theorem hi_412 : pi_look pi_iT 11 412 = some (2, 266, 0, 1781) := rfl
theorem hi_415 : pi_look pi_iT 11 415 = some (2, 268, 3, 1789) := rfl
theorem hi_418 : pi_look pi_iT 11 418 = some (2, 269, 3, 1793) := rfl
theorem hf270_0 : pi_fetch mc_270 0 = some (.aload_n 0, 1) := rfl
theorem hf270_1 : pi_fetch mc_270 1 = some (.iconst 0, 1) := rfl
theorem hf270_2 : pi_fetch mc_270 2 = some (.putfield 1, 3) := rfl
theorem hf270_5 : pi_fetch mc_270 5 = some (.iload_n 1, 1) := rfl
theorem hf270_6 : pi_fetch mc_270 6 = some (.iconst 0, 1) := rfl
theorem hf270_7 : pi_fetch mc_270 7 = some (.iconst 1, 1) := rfl
theorem hf270_8 : pi_fetch mc_270 8 = some (.invokestatic 184, 3) := rfl
theorem hf270_11 : pi_fetch mc_270 11 = some (.ifCond .ne 7, 3) := rfl
theorem hf270_14 : pi_fetch mc_270 14 = some (.sipush (-1000), 3) := rfl
theorem hf270_17 : pi_fetch mc_270 17 = some (.ireturn, 1) := rfl
theorem hf270_18 : pi_fetch mc_270 18 = some (.aload_n 0, 1) := rfl
theorem hf270_19 : pi_fetch mc_270 19 = some (.sipush 400, 3) := rfl
theorem hf270_22 : pi_fetch mc_270 22 = some (.invokevirtual 232, 3) := rfl
theorem hf270_25 : pi_fetch mc_270 25 = some (.aload_n 0, 1) := rfl
theorem hf270_26 : pi_fetch mc_270 26 = some (.iconst 0, 1) := rfl
theorem hf270_27 : pi_fetch mc_270 27 = some (.putfield 169, 3) := rfl
theorem hf270_30 : pi_fetch mc_270 30 = some (.aload_n 0, 1) := rfl
theorem hf270_31 : pi_fetch mc_270 31 = some (.iconst 0, 1) := rfl
theorem hf270_32 : pi_fetch mc_270 32 = some (.putfield 406, 3) := rfl
theorem hf270_35 : pi_fetch mc_270 35 = some (.aload_n 0, 1) := rfl
theorem hf270_36 : pi_fetch mc_270 36 = some (.invokevirtual 181, 3) := rfl
theorem hf270_39 : pi_fetch mc_270 39 = some (.aload_n 0, 1) := rfl
theorem hf270_40 : pi_fetch mc_270 40 = some (.getfield 152, 3) := rfl
theorem hf270_43 : pi_fetch mc_270 43 = some (.ifCond .eq 40, 3) := rfl
theorem hf270_46 : pi_fetch mc_270 46 = some (.aload_n 0, 1) := rfl
theorem hf270_47 : pi_fetch mc_270 47 = some (.invokevirtual 412, 3) := rfl
theorem hf270_50 : pi_fetch mc_270 50 = some (.ifCond .eq 12, 3) := rfl
theorem hf270_53 : pi_fetch mc_270 53 = some (.aload_n 0, 1) := rfl
theorem hf270_54 : pi_fetch mc_270 54 = some (.bipush 59, 2) := rfl
theorem hf270_56 : pi_fetch mc_270 56 = some (.invokevirtual 241, 3) := rfl
theorem hf270_59 : pi_fetch mc_270 59 = some (.ifCond .ne 11, 3) := rfl
theorem hf270_62 : pi_fetch mc_270 62 = some (.bipush (-2), 2) := rfl
theorem hf270_64 : pi_fetch mc_270 64 = some (.aload_n 0, 1) := rfl
theorem hf270_65 : pi_fetch mc_270 65 = some (.getfield 172, 3) := rfl
theorem hf270_68 : pi_fetch mc_270 68 = some (.isub, 1) := rfl
theorem hf270_69 : pi_fetch mc_270 69 = some (.ireturn, 1) := rfl
theorem hf270_70 : pi_fetch mc_270 70 = some (.aload_n 0, 1) := rfl
theorem hf270_71 : pi_fetch mc_270 71 = some (.dup, 1) := rfl
theorem hf270_72 : pi_fetch mc_270 72 = some (.getfield 406, 3) := rfl
theorem hf270_75 : pi_fetch mc_270 75 = some (.iconst 1, 1) := rfl
theorem hf270_76 : pi_fetch mc_270 76 = some (.iadd, 1) := rfl
theorem hf270_77 : pi_fetch mc_270 77 = some (.putfield 406, 3) := rfl
theorem hf270_80 : pi_fetch mc_270 80 = some (.goto (-41), 3) := rfl
theorem hf270_83 : pi_fetch mc_270 83 = some (.aload_n 0, 1) := rfl
theorem hf270_84 : pi_fetch mc_270 84 = some (.invokevirtual 371, 3) := rfl
theorem hf270_87 : pi_fetch mc_270 87 = some (.iconst 0, 1) := rfl
theorem hf270_88 : pi_fetch mc_270 88 = some (.istore_n 2, 1) := rfl
theorem hf270_89 : pi_fetch mc_270 89 = some (.iload_n 2, 1) := rfl
theorem hf270_90 : pi_fetch mc_270 90 = some (.iconst 4, 1) := rfl
theorem hf270_91 : pi_fetch mc_270 91 = some (.if_icmp .ge 16, 3) := rfl
theorem hf270_94 : pi_fetch mc_270 94 = some (.aload_n 0, 1) := rfl
theorem hf270_95 : pi_fetch mc_270 95 = some (.getfield 65, 3) := rfl
theorem hf270_98 : pi_fetch mc_270 98 = some (.iload_n 2, 1) := rfl
theorem hf270_99 : pi_fetch mc_270 99 = some (.iconst 0, 1) := rfl
theorem hf270_100 : pi_fetch mc_270 100 = some (.iastore, 1) := rfl
theorem hf270_101 : pi_fetch mc_270 101 = some (.iinc 2 1, 3) := rfl
theorem hf270_104 : pi_fetch mc_270 104 = some (.goto (-15), 3) := rfl
theorem hf270_107 : pi_fetch mc_270 107 = some (.iconst (-1), 1) := rfl
theorem hf270_108 : pi_fetch mc_270 108 = some (.istore_n 2, 1) := rfl
theorem hf270_109 : pi_fetch mc_270 109 = some (.iconst 0, 1) := rfl
theorem hf270_110 : pi_fetch mc_270 110 = some (.istore_n 3, 1) := rfl
theorem hf270_111 : pi_fetch mc_270 111 = some (.iload_n 3, 1) := rfl
theorem hf270_112 : pi_fetch mc_270 112 = some (.aload_n 0, 1) := rfl
theorem hf270_113 : pi_fetch mc_270 113 = some (.getfield 406, 3) := rfl
theorem hf270_116 : pi_fetch mc_270 116 = some (.if_icmp .ge 117, 3) := rfl
theorem hf270_119 : pi_fetch mc_270 119 = some (.iload_n 2, 1) := rfl
theorem hf270_120 : pi_fetch mc_270 120 = some (.ifCond .ge 113, 3) := rfl
theorem hf270_123 : pi_fetch mc_270 123 = some (.iconst 3, 1) := rfl
theorem hf270_124 : pi_fetch mc_270 124 = some (.iload_n 3, 1) := rfl
theorem hf270_125 : pi_fetch mc_270 125 = some (.imul, 1) := rfl
theorem hf270_126 : pi_fetch mc_270 126 = some (.istore 4, 2) := rfl
theorem hf270_128 : pi_fetch mc_270 128 = some (.aload_n 0, 1) := rfl
theorem hf270_129 : pi_fetch mc_270 129 = some (.aload_n 0, 1) := rfl
theorem hf270_130 : pi_fetch mc_270 130 = some (.getfield 40, 3) := rfl
theorem hf270_133 : pi_fetch mc_270 133 = some (.iload 4, 2) := rfl
theorem hf270_135 : pi_fetch mc_270 135 = some (.iaload, 1) := rfl
theorem hf270_136 : pi_fetch mc_270 136 = some (.aload_n 0, 1) := rfl
theorem hf270_137 : pi_fetch mc_270 137 = some (.getfield 40, 3) := rfl
theorem hf270_140 : pi_fetch mc_270 140 = some (.iload 4, 2) := rfl
theorem hf270_142 : pi_fetch mc_270 142 = some (.iconst 1, 1) := rfl
theorem hf270_143 : pi_fetch mc_270 143 = some (.iadd, 1) := rfl
theorem hf270_144 : pi_fetch mc_270 144 = some (.iaload, 1) := rfl
theorem hf270_145 : pi_fetch mc_270 145 = some (.aload_n 0, 1) := rfl
theorem hf270_146 : pi_fetch mc_270 146 = some (.getfield 40, 3) := rfl
theorem hf270_149 : pi_fetch mc_270 149 = some (.iload 4, 2) := rfl
theorem hf270_151 : pi_fetch mc_270 151 = some (.iconst 2, 1) := rfl
theorem hf270_152 : pi_fetch mc_270 152 = some (.iadd, 1) := rfl
theorem hf270_153 : pi_fetch mc_270 153 = some (.iaload, 1) := rfl
theorem hf270_154 : pi_fetch mc_270 154 = some (.invokevirtual 415, 3) := rfl
theorem hf270_157 : pi_fetch mc_270 157 = some (.istore 5, 2) := rfl
theorem hf270_159 : pi_fetch mc_270 159 = some (.iload 5, 2) := rfl
theorem hf270_161 : pi_fetch mc_270 161 = some (.ifCond .le 27, 3) := rfl
theorem hf270_164 : pi_fetch mc_270 164 = some (.aload_n 0, 1) := rfl
theorem hf270_165 : pi_fetch mc_270 165 = some (.getfield 65, 3) := rfl
theorem hf270_168 : pi_fetch mc_270 168 = some (.iconst 0, 1) := rfl
theorem hf270_169 : pi_fetch mc_270 169 = some (.bipush 10, 2) := rfl
theorem hf270_171 : pi_fetch mc_270 171 = some (.aload_n 0, 1) := rfl
theorem hf270_172 : pi_fetch mc_270 172 = some (.getfield 40, 3) := rfl
theorem hf270_175 : pi_fetch mc_270 175 = some (.iload 4, 2) := rfl
theorem hf270_177 : pi_fetch mc_270 177 = some (.iaload, 1) := rfl
theorem hf270_178 : pi_fetch mc_270 178 = some (.imul, 1) := rfl
theorem hf270_179 : pi_fetch mc_270 179 = some (.iload 5, 2) := rfl
theorem hf270_181 : pi_fetch mc_270 181 = some (.iadd, 1) := rfl
theorem hf270_182 : pi_fetch mc_270 182 = some (.iastore, 1) := rfl
theorem hf270_183 : pi_fetch mc_270 183 = some (.iload_n 3, 1) := rfl
theorem hf270_184 : pi_fetch mc_270 184 = some (.istore_n 2, 1) := rfl
theorem hf270_185 : pi_fetch mc_270 185 = some (.goto 42, 3) := rfl
theorem hf270_188 : pi_fetch mc_270 188 = some (.aload_n 0, 1) := rfl
theorem hf270_189 : pi_fetch mc_270 189 = some (.aload_n 0, 1) := rfl
theorem hf270_190 : pi_fetch mc_270 190 = some (.getfield 40, 3) := rfl
theorem hf270_193 : pi_fetch mc_270 193 = some (.iload 4, 2) := rfl
theorem hf270_195 : pi_fetch mc_270 195 = some (.iaload, 1) := rfl
theorem hf270_196 : pi_fetch mc_270 196 = some (.aload_n 0, 1) := rfl
theorem hf270_197 : pi_fetch mc_270 197 = some (.getfield 40, 3) := rfl
theorem hf270_200 : pi_fetch mc_270 200 = some (.iload 4, 2) := rfl
theorem hf270_202 : pi_fetch mc_270 202 = some (.iconst 1, 1) := rfl
theorem hf270_203 : pi_fetch mc_270 203 = some (.iadd, 1) := rfl
theorem hf270_204 : pi_fetch mc_270 204 = some (.iaload, 1) := rfl
theorem hf270_205 : pi_fetch mc_270 205 = some (.aload_n 0, 1) := rfl
theorem hf270_206 : pi_fetch mc_270 206 = some (.getfield 40, 3) := rfl
theorem hf270_209 : pi_fetch mc_270 209 = some (.iload 4, 2) := rfl
theorem hf270_211 : pi_fetch mc_270 211 = some (.iconst 2, 1) := rfl
theorem hf270_212 : pi_fetch mc_270 212 = some (.iadd, 1) := rfl
theorem hf270_213 : pi_fetch mc_270 213 = some (.iaload, 1) := rfl
theorem hf270_214 : pi_fetch mc_270 214 = some (.invokevirtual 418, 3) := rfl
theorem hf270_217 : pi_fetch mc_270 217 = some (.aload_n 0, 1) := rfl
theorem hf270_218 : pi_fetch mc_270 218 = some (.getfield 65, 3) := rfl
theorem hf270_221 : pi_fetch mc_270 221 = some (.iconst 1, 1) := rfl
theorem hf270_222 : pi_fetch mc_270 222 = some (.dup2, 1) := rfl
theorem hf270_223 : pi_fetch mc_270 223 = some (.iaload, 1) := rfl
theorem hf270_224 : pi_fetch mc_270 224 = some (.iconst 1, 1) := rfl
theorem hf270_225 : pi_fetch mc_270 225 = some (.iadd, 1) := rfl
theorem hf270_226 : pi_fetch mc_270 226 = some (.iastore, 1) := rfl
theorem hf270_227 : pi_fetch mc_270 227 = some (.iinc 3 1, 3) := rfl
theorem hf270_230 : pi_fetch mc_270 230 = some (.goto (-119), 3) := rfl
theorem hf270_233 : pi_fetch mc_270 233 = some (.aload_n 0, 1) := rfl
theorem hf270_234 : pi_fetch mc_270 234 = some (.getfield 65, 3) := rfl
theorem hf270_237 : pi_fetch mc_270 237 = some (.iconst 2, 1) := rfl
theorem hf270_238 : pi_fetch mc_270 238 = some (.aload_n 0, 1) := rfl
theorem hf270_239 : pi_fetch mc_270 239 = some (.getfield 33, 3) := rfl
theorem hf270_242 : pi_fetch mc_270 242 = some (.bipush 115, 2) := rfl
theorem hf270_244 : pi_fetch mc_270 244 = some (.iaload, 1) := rfl
theorem hf270_245 : pi_fetch mc_270 245 = some (.iastore, 1) := rfl
theorem hf270_246 : pi_fetch mc_270 246 = some (.aload_n 0, 1) := rfl
theorem hf270_247 : pi_fetch mc_270 247 = some (.getfield 65, 3) := rfl
theorem hf270_250 : pi_fetch mc_270 250 = some (.iconst 3, 1) := rfl
theorem hf270_251 : pi_fetch mc_270 251 = some (.aload_n 0, 1) := rfl
theorem hf270_252 : pi_fetch mc_270 252 = some (.invokevirtual 298, 3) := rfl
theorem hf270_255 : pi_fetch mc_270 255 = some (.iastore, 1) := rfl
theorem hf270_256 : pi_fetch mc_270 256 = some (.aload_n 0, 1) := rfl
theorem hf270_257 : pi_fetch mc_270 257 = some (.iconst 1, 1) := rfl
theorem hf270_258 : pi_fetch mc_270 258 = some (.putfield 421, 3) := rfl
theorem hf270_261 : pi_fetch mc_270 261 = some (.iload_n 1, 1) := rfl
theorem hf270_262 : pi_fetch mc_270 262 = some (.iconst 1, 1) := rfl
theorem hf270_263 : pi_fetch mc_270 263 = some (.if_icmp .ne 52, 3) := rfl
theorem hf270_266 : pi_fetch mc_270 266 = some (.aload_n 0, 1) := rfl
theorem hf270_267 : pi_fetch mc_270 267 = some (.getfield 65, 3) := rfl
theorem hf270_270 : pi_fetch mc_270 270 = some (.iconst 1, 1) := rfl
theorem hf270_271 : pi_fetch mc_270 271 = some (.iaload, 1) := rfl
theorem hf270_272 : pi_fetch mc_270 272 = some (.ifCond .le 43, 3) := rfl
theorem hf270_275 : pi_fetch mc_270 275 = some (.aload_n 0, 1) := rfl
theorem hf270_276 : pi_fetch mc_270 276 = some (.invokevirtual 319, 3) := rfl
theorem hf270_279 : pi_fetch mc_270 279 = some (.iconst 0, 1) := rfl
theorem hf270_280 : pi_fetch mc_270 280 = some (.istore_n 3, 1) := rfl
theorem hf270_281 : pi_fetch mc_270 281 = some (.iload_n 3, 1) := rfl
theorem hf270_282 : pi_fetch mc_270 282 = some (.bipush 115, 2) := rfl
theorem hf270_284 : pi_fetch mc_270 284 = some (.if_icmp .ge 31, 3) := rfl
theorem hf270_287 : pi_fetch mc_270 287 = some (.aload_n 0, 1) := rfl
theorem hf270_288 : pi_fetch mc_270 288 = some (.getfield 50, 3) := rfl
theorem hf270_291 : pi_fetch mc_270 291 = some (.bipush 115, 2) := rfl
theorem hf270_293 : pi_fetch mc_270 293 = some (.aload_n 0, 1) := rfl
theorem hf270_294 : pi_fetch mc_270 294 = some (.getfield 247, 3) := rfl
theorem hf270_297 : pi_fetch mc_270 297 = some (.iconst 1, 1) := rfl
theorem hf270_298 : pi_fetch mc_270 298 = some (.isub, 1) := rfl
theorem hf270_299 : pi_fetch mc_270 299 = some (.imul, 1) := rfl
theorem hf270_300 : pi_fetch mc_270 300 = some (.iload_n 3, 1) := rfl
theorem hf270_301 : pi_fetch mc_270 301 = some (.iadd, 1) := rfl
theorem hf270_302 : pi_fetch mc_270 302 = some (.aload_n 0, 1) := rfl
theorem hf270_303 : pi_fetch mc_270 303 = some (.getfield 53, 3) := rfl
theorem hf270_306 : pi_fetch mc_270 306 = some (.iload_n 3, 1) := rfl
theorem hf270_307 : pi_fetch mc_270 307 = some (.iaload, 1) := rfl
theorem hf270_308 : pi_fetch mc_270 308 = some (.iastore, 1) := rfl
theorem hf270_309 : pi_fetch mc_270 309 = some (.iinc 3 1, 3) := rfl
theorem hf270_312 : pi_fetch mc_270 312 = some (.goto (-31), 3) := rfl
theorem hf270_315 : pi_fetch mc_270 315 = some (.iload_n 1, 1) := rfl
theorem hf270_316 : pi_fetch mc_270 316 = some (.ifCond .ne 7, 3) := rfl
theorem hf270_319 : pi_fetch mc_270 319 = some (.aload_n 0, 1) := rfl
theorem hf270_320 : pi_fetch mc_270 320 = some (.invokevirtual 377, 3) := rfl
theorem hf270_323 : pi_fetch mc_270 323 = some (.iload_n 2, 1) := rfl
theorem hf270_324 : pi_fetch mc_270 324 = some (.ireturn, 1) := rfl
def hm266 : pi_M := (11, 4, (some .boolean), false, mc_266)
def hm268 : pi_M := (11, 4, (some .int), false, mc_268)
def hm269 : pi_M := (11, 4, none, false, mc_269)
def hm270 : pi_M := (11, 6, (some .int), false, mc_270)
set_option maxRecDepth 100000 in
theorem pz_270 : pi_mt[270]? = some (mn_270, prog_13_method_110_code, (11, 6, (some .int), false, mc_270)) := rfl
def da_G : af_G := ((11, 6, (some .int), mc_270), aw_Sh, [ak_791, ak_411, ak_490], 1, [(61, 0, 1), (61, 2, 6), (61, 11, 16), (61, 17, 18), (61, 32, 33)], [(1, [.inl ((-1000), [])], [((61, 0), (0, []))], ([], [], []))], [(39, (1, [(0, .inr (.inl 61)), (1, .inl (0, [0]))], [], [((61, 32), (0, []))], ([(0, 0, 1)], [], [])), [(0, 0, (0, []))])], [], [])
def da_s : af_S := (1, [(0, .inr (.inl 61)), (1, .inl (0, [0]))], [], [], ([(0, (-2147483648), 2147483647)], [], []))
set_option maxRecDepth 1000000 in
theorem da_r : af_run 25 da_G none (0, da_s) = true := by decide +kernel
set_option maxRecDepth 1000000 in
theorem da_l : (da_G.2.2.2.2.2.2.1.take 0).all (fun q => af_pos q.2.1.2.2.2.2 q.2.2 && af_run 25 da_G (some q.2.2) (q.1, q.2.1)) = true := by decide +kernel
theorem da_w : ax_wf da_G.2.2.2.1 da_G.2.2.2.2.2.1 da_G.2.2.2.2.2.2.1 = true := by decide +kernel
theorem da_h : ∀ K ∈ da_G.2.2.1, af_Holds da_G.2.1 7 K := (af_HC ah_791 (by decide) (af_HC ah_411 (by decide) (af_HC ah_490 (by decide) af_HN)))
def db_G : af_G := ((11, 6, (some .int), mc_270), aw_Sh, [ak_524], 2, [(61, 4, 5), (61, 11, 18), (61, 32, 33)], [(4, [.inl (0, [2])], [((61, 15), (1, [])), ((61, 16), (0, [3])), ((61, 32), (0, [0]))], ([(2, (-942), (-2)), (3, 0, 940)], [], []))], [(39, (2, [(0, .inr (.inl 61)), (1, .inl (0, [1]))], [], [((61, 32), (1, [0]))], ([(0, 0, 39), (1, 0, 1)], [], [])), [(0, 0, (0, []))])], [], [])
def db_s : af_S := (2, [(0, .inr (.inl 61)), (1, .inl (0, [1]))], [], [((61, 32), (0, [0]))], ([(0, 0, 39), (1, 0, 1)], [], []))
set_option maxRecDepth 1000000 in
theorem db_r : af_run 17 db_G none (53, db_s) = true := by decide +kernel
set_option maxRecDepth 1000000 in
theorem db_l : (db_G.2.2.2.2.2.2.1.take 0).all (fun q => af_pos q.2.1.2.2.2.2 q.2.2 && af_run 17 db_G (some q.2.2) (q.1, q.2.1)) = true := by decide +kernel
theorem db_w : ax_wf db_G.2.2.2.1 db_G.2.2.2.2.2.1 db_G.2.2.2.2.2.2.1 = true := by decide +kernel
theorem db_h : ∀ K ∈ db_G.2.2.1, af_Holds db_G.2.1 8 K := (af_HC ah_524 (by decide) af_HN)
def dc_G : af_G := ((11, 6, (some .int), mc_270), aw_Sh, [], 0, [], [(1, [.inl (0, [0])], [], ([(0, (-2147483648), 2147483647)], [], []))], [], [], [])
def dc_s : af_S := (0, [(0, .inr (.inl 61))], [], [], ([], [], []))
set_option maxRecDepth 1000000 in
theorem dc_r : af_run 11 dc_G none (62, dc_s) = true := by decide +kernel
set_option maxRecDepth 1000000 in
theorem dc_l : (dc_G.2.2.2.2.2.2.1.take 0).all (fun q => af_pos q.2.1.2.2.2.2 q.2.2 && af_run 11 dc_G (some q.2.2) (q.1, q.2.1)) = true := by decide +kernel
theorem dc_w : ax_wf dc_G.2.2.2.1 dc_G.2.2.2.2.2.1 dc_G.2.2.2.2.2.2.1 = true := by decide +kernel
theorem dc_h : ∀ K ∈ dc_G.2.2.1, af_Holds dc_G.2.1 0 K := af_HN
def dd_G : af_G := ((11, 6, (some .int), mc_270), aw_Sh, [ak_446], 2, [(69, 0, 115), (73, 0, 4)], [], [(89, (3, [(0, .inr (.inl 61)), (1, .inl (0, [0])), (2, .inl (0, [2]))], [], [((61, 32), (0, [1]))], ([(2, 0, 4), (0, 0, 1), (1, 0, 40)], [], [])), [(1, 0, (0, [])), (2147483647, 1, (0, [2])), (0, 0, (0, []))]),
  (111, (2, [(0, .inr (.inl 61)), (1, .inl (0, [0])), (2, .inl ((-1), [])), (3, .inl (0, []))], [], [((61, 32), (0, [1]))], ([(0, 0, 1), (1, 0, 40)], [], [])), [(0, 0, (0, []))])], [], [])
def dd_s : af_S := (2, [(0, .inr (.inl 61)), (1, .inl (0, [0]))], [], [((61, 32), (0, [1]))], ([(0, 0, 1), (1, 0, 40)], [], []))
set_option maxRecDepth 1000000 in
theorem dd_r : af_run 16 dd_G none (83, dd_s) = true := by decide +kernel
set_option maxRecDepth 1000000 in
theorem dd_l : (dd_G.2.2.2.2.2.2.1.take 1).all (fun q => af_pos q.2.1.2.2.2.2 q.2.2 && af_run 16 dd_G (some q.2.2) (q.1, q.2.1)) = true := by decide +kernel
theorem dd_w : ax_wf dd_G.2.2.2.1 dd_G.2.2.2.2.2.1 dd_G.2.2.2.2.2.2.1 = true := by decide +kernel
theorem dd_h : ∀ K ∈ dd_G.2.2.1, af_Holds dd_G.2.1 1 K := (af_HC ah_446 (by decide) af_HN)
def de_G : af_G := ((11, 6, (some .int), mc_270), aw_Sh, [], 6, [(73, 0, 1)], [], [(188, (6, [(0, .inr (.inl 61)), (1, .inl (0, [0])), (2, .inl (0, [1])), (3, .inl (0, [2])), (4, .inl (0, [3])), (5, .inl (0, [5]))], [], [((61, 32), (0, [4]))], ([(0, 0, 1), (1, (-2147483648), 2147483647), (2, 0, 39), (3, 0, 117), (4, 0, 40), (5, (-2147483648), 0)], [], [])), [(0, 0, (0, []))]),
  (227, (6, [(0, .inr (.inl 61)), (1, .inl (0, [0])), (2, .inl (0, [2])), (3, .inl (0, [2])), (4, .inl (0, [3])), (5, .inl (0, [5]))], [], [((61, 32), (0, [4]))], ([(0, 0, 1), (1, (-2147483648), 2147483647), (2, 0, 39), (3, 0, 117), (4, 0, 40), (5, 1, 2147483647)], [], [])), [(0, 0, (0, []))])], [], [])
def de_s : af_S := (6, [(0, .inr (.inl 61)), (1, .inl (0, [0])), (2, .inl (0, [1])), (3, .inl (0, [2])), (4, .inl (0, [3]))], [.inl (0, [5])], [((61, 32), (0, [4]))], ([(0, 0, 1), (1, (-2147483648), 2147483647), (2, 0, 39), (3, 0, 117), (4, 0, 40), (5, (-2147483648), 2147483647)], [], []))
set_option maxRecDepth 1000000 in
theorem de_r : af_run 24 de_G none (157, de_s) = true := by decide +kernel
set_option maxRecDepth 1000000 in
theorem de_l : (de_G.2.2.2.2.2.2.1.take 0).all (fun q => af_pos q.2.1.2.2.2.2 q.2.2 && af_run 24 de_G (some q.2.2) (q.1, q.2.1)) = true := by decide +kernel
theorem de_w : ax_wf de_G.2.2.2.1 de_G.2.2.2.2.2.1 de_G.2.2.2.2.2.2.1 = true := by decide +kernel
theorem de_h : ∀ K ∈ de_G.2.2.1, af_Holds de_G.2.1 0 K := af_HN
def df_G : af_G := ((11, 6, (some .int), mc_270), aw_Sh, [], 5, [(73, 1, 2)], [], [(227, (5, [(0, .inr (.inl 61)), (1, .inl (0, [0])), (2, .inl (0, [1])), (3, .inl (0, [2])), (4, .inl (0, [3]))], [], [((61, 32), (0, [4]))], ([(0, 0, 1), (1, (-2147483648), 2147483647), (2, 0, 39), (3, 0, 117), (4, 0, 40)], [], [])), [(0, 0, (0, []))])], [], [])
def df_s : af_S := (5, [(0, .inr (.inl 61)), (1, .inl (0, [0])), (2, .inl (0, [1])), (3, .inl (0, [2])), (4, .inl (0, [3]))], [], [((61, 32), (0, [4]))], ([(0, 0, 1), (1, (-2147483648), 2147483647), (2, 0, 39), (3, 0, 117), (4, 0, 40)], [], []))
set_option maxRecDepth 1000000 in
theorem df_r : af_run 14 df_G none (217, df_s) = true := by decide +kernel
set_option maxRecDepth 1000000 in
theorem df_l : (df_G.2.2.2.2.2.2.1.take 0).all (fun q => af_pos q.2.1.2.2.2.2 q.2.2 && af_run 14 df_G (some q.2.2) (q.1, q.2.1)) = true := by decide +kernel
theorem df_w : ax_wf df_G.2.2.2.1 df_G.2.2.2.2.2.1 df_G.2.2.2.2.2.2.1 = true := by decide +kernel
theorem df_h : ∀ K ∈ df_G.2.2.1, af_Holds df_G.2.1 0 K := af_HN
def dg_G : af_G := ((11, 6, (some .int), mc_270), aw_Sh, [ak_392, ak_395, ak_449], 2, [(61, 22, 23), (61, 34, 35), (63, 115, 230), (68, 0, 920), (73, 2, 4)], [(2, [.inl (0, [1])], [], ([], [], []))], [(281, (4, [(0, .inr (.inl 61)), (1, .inl (0, [0])), (2, .inl (0, [1])), (3, .inl (0, [2]))], [], [((61, 22), (0, [3]))], ([(2, 0, 115), (3, 8, 8), (0, 1, 1), (1, (-2147483648), 2147483647)], [], [])), [(1, 0, (0, [])), (2147483647, 1, (0, [2])), (0, 0, (0, []))]),
  (281, (4, [(0, .inr (.inl 61)), (1, .inl (0, [0])), (2, .inl (0, [1])), (3, .inl (0, [2]))], [], [((61, 22), (0, [3]))], ([(2, 0, 115), (3, 7, 7), (0, 1, 1), (1, (-2147483648), 2147483647)], [], [])), [(1, 0, (0, [])), (2147483647, 1, (0, [2])), (0, 0, (0, []))]),
  (281, (4, [(0, .inr (.inl 61)), (1, .inl (0, [0])), (2, .inl (0, [1])), (3, .inl (0, [2]))], [], [((61, 22), (0, [3]))], ([(2, 0, 115), (3, 6, 6), (0, 1, 1), (1, (-2147483648), 2147483647)], [], [])), [(1, 0, (0, [])), (2147483647, 1, (0, [2])), (0, 0, (0, []))]),
  (281, (4, [(0, .inr (.inl 61)), (1, .inl (0, [0])), (2, .inl (0, [1])), (3, .inl (0, [2]))], [], [((61, 22), (0, [3]))], ([(2, 0, 115), (3, 5, 5), (0, 1, 1), (1, (-2147483648), 2147483647)], [], [])), [(1, 0, (0, [])), (2147483647, 1, (0, [2])), (0, 0, (0, []))]),
  (281, (4, [(0, .inr (.inl 61)), (1, .inl (0, [0])), (2, .inl (0, [1])), (3, .inl (0, [2]))], [], [((61, 22), (0, [3]))], ([(2, 0, 115), (3, 4, 4), (0, 1, 1), (1, (-2147483648), 2147483647)], [], [])), [(1, 0, (0, [])), (2147483647, 1, (0, [2])), (0, 0, (0, []))]),
  (281, (4, [(0, .inr (.inl 61)), (1, .inl (0, [0])), (2, .inl (0, [1])), (3, .inl (0, [2]))], [], [((61, 22), (0, [3]))], ([(2, 0, 115), (3, 3, 3), (0, 1, 1), (1, (-2147483648), 2147483647)], [], [])), [(1, 0, (0, [])), (2147483647, 1, (0, [2])), (0, 0, (0, []))]),
  (281, (4, [(0, .inr (.inl 61)), (1, .inl (0, [0])), (2, .inl (0, [1])), (3, .inl (0, [2]))], [], [((61, 22), (0, [3]))], ([(2, 0, 115), (3, 2, 2), (0, 1, 1), (1, (-2147483648), 2147483647)], [], [])), [(1, 0, (0, [])), (2147483647, 1, (0, [2])), (0, 0, (0, []))]),
  (281, (4, [(0, .inr (.inl 61)), (1, .inl (0, [0])), (2, .inl (0, [1])), (3, .inl (0, [2]))], [], [((61, 22), (0, [3]))], ([(2, 0, 115), (3, 1, 1), (0, 1, 1), (1, (-2147483648), 2147483647)], [], [])), [(1, 0, (0, [])), (2147483647, 1, (0, [2])), (0, 0, (0, []))])], [], [(279, 61, 22)])
def dg_s : af_S := (2, [(0, .inr (.inl 61)), (1, .inl (0, [0])), (2, .inl (0, [1]))], [], [], ([(0, 0, 1), (1, (-2147483648), 2147483647)], [], []))
set_option maxRecDepth 1000000 in
theorem dg_r : af_run 36 dg_G none (233, dg_s) = true := by decide +kernel
set_option maxRecDepth 1000000 in
theorem dg_l : (dg_G.2.2.2.2.2.2.1.take 8).all (fun q => af_pos q.2.1.2.2.2.2 q.2.2 && af_run 36 dg_G (some q.2.2) (q.1, q.2.1)) = true := by decide +kernel
theorem dg_w : ax_wf dg_G.2.2.2.1 dg_G.2.2.2.2.2.1 dg_G.2.2.2.2.2.2.1 = true := by decide +kernel
theorem dg_h : ∀ K ∈ dg_G.2.2.1, af_Holds dg_G.2.1 6 K := (af_HC ah_392 (by decide) (af_HC ah_395 (by decide) (af_HC ah_449 (by decide) af_HN)))
def tv (a b e : Int) : Prop := 0 ≤ a ∧ a ≤ 7 ∧ (a ≤ 5 → 0 ≤ b ∧ b ≤ 5) ∧ (a = 0 → 0 ≤ e ∧ e ≤ 9) ∧ (a = 1 → 0 ≤ e ∧ e ≤ 4) ∧ (a = 5 → 0 ≤ e ∧ e ≤ 9) ∧ (a = 6 → 0 ≤ b ∧ b ≤ 9) ∧ (a = 7 → 1 ≤ b ∧ b ≤ 60)
def tw (w : pi_W) (i : Nat) : Prop := ∃ a b e : Int32, af_wloc w 65 (3 * i) = some (.int a) ∧ af_wloc w 65 (3 * i + 1) = some (.int b) ∧ af_wloc w 65 (3 * i + 2) = some (.int e) ∧ tv a.toInt b.toInt e.toInt
theorem tw.fr {w w' : pi_W} {i : Nat} (h : tw w i) (hF : ∀ j, 3 * i ≤ j → j ≤ 3 * i + 2 → af_wloc w' 65 j = af_wloc w 65 j) : tw w' i := by
  obtain ⟨a, b, e, h1, h2, h3, h4⟩ := h
  exact ⟨a, b, e, (hF _ (by omega) (by omega)).trans h1, (hF _ (by omega) (by omega)).trans h2, (hF _ (by omega) (by omega)).trans h3, h4⟩
def tk_b (N : af_N) (f : Option af_F) (lo hi : Int) : Bool := match f with
  | none => false
  | some f => match af_iv N f with
    | some (a, b) => decide (lo ≤ a) && decide (b ≤ hi)
    | none => false
def tk_c (c : Nat) (a : Int) (T : af_T) (N : af_N) : Bool := decide (0 ≤ a) && (decide (a ≤ 7) && ((decide (5 < a) || tk_b N (af_getT T 65 (3 * c + 1)) 0 5) && ((decide (a ≠ 0) || tk_b N (af_getT T 65 (3 * c + 2)) 0 9) && ((decide (a ≠ 1) || tk_b N (af_getT T 65 (3 * c + 2)) 0 4) && ((decide (a ≠ 5) || tk_b N (af_getT T 65 (3 * c + 2)) 0 9) && ((decide (a ≠ 6) || tk_b N (af_getT T 65 (3 * c + 1)) 0 9) && (decide (a ≠ 7) || tk_b N (af_getT T 65 (3 * c + 1)) 1 60)))))))
def tk_ok (c : Nat) (P : af_Q) : Bool := match P.2.1 with
  | [.inl f] => match af_iv P.2.2.2 f with
    | some (r0, r1) => (decide (r0 = 0) && decide (r1 = 0)) || (decide (r0 = 1) && (decide (r1 = 1) && (decide (c < 40) && (match af_getT P.2.2.1 65 (3 * c) with
      | some fa => (match af_iv P.2.2.2 fa with
        | some (a, a') => decide (a = a') && tk_c c a P.2.2.1 P.2.2.2
        | none => false)
      | none => false))))
    | none => false
  | _ => false
theorem tk_b_ok {n : Nat} {ρ : Nat → Int} {T : af_T} {N : af_N} {w : pi_W} {lo hi : Int} {j : Nat} {x : Int32} (hT : af_Sl n ρ T w) (hK : af_Kn n ρ aw_Sh N) (h : tk_b N (af_getT T 65 j) lo hi = true) (hx : af_wloc w 65 j = some (.int x)) : lo ≤ x.toInt ∧ x.toInt ≤ hi := by
  unfold tk_b at h
  split at h
  · cases h
  · rename_i f hf
    split at h
    · rename_i a b hab
      rw [Bool.and_eq_true, decide_eq_true_eq, decide_eq_true_eq] at h
      obtain ⟨y, h1, h2⟩ := hl_loc hT (af_getT_mem hf) (by decide)
      rw [hx] at h1
      injection h1 with h1
      injection h1 with h1
      have := af_iv_ok hK hab
      rw [h1]
      omega
    · cases h
def tq (c : Nat) (r : Option Value) (w' : pi_W) : Prop := r = some (.int 0) ∨ (r = some (.int 1) ∧ c < 40 ∧ tw w' c)
theorem tk_ok_ok {c E : Nat} {ρ : Nat → Int} {P : af_Q} {r : Option Value} {w' : pi_W} (hc : c ≤ 40) (h : tk_ok c P = true) (hC : af_Conf aw_Sh w') (hE : af_End aw_Sh E ρ P r.toList w') : tq c r w' := by
  obtain ⟨ρ', -, hst, hT, hK⟩ := hE
  unfold tk_ok at h
  split at h
  · rename_i f hP
    rw [hP] at hst
    obtain ⟨x, rfl, hx⟩ := hl_res hst
    split at h
    · rename_i r0 r1 hr
      have hb := af_iv_ok hK hr
      rw [Bool.or_eq_true, Bool.and_eq_true, decide_eq_true_eq, decide_eq_true_eq, Bool.and_eq_true, Bool.and_eq_true, Bool.and_eq_true, decide_eq_true_eq, decide_eq_true_eq, decide_eq_true_eq] at h
      rcases h with ⟨h1, h2⟩ | ⟨h1, h2, h3, h4⟩
      · exact Or.inl (by rw [hn_0 (x := x) (by omega)])
      · refine Or.inr ⟨by rw [hn_1e (x := x) (by omega)], h3, ?_⟩
        obtain ⟨rf, hrf⟩ := hq_arr hC hq_s65 (by decide)
        split at h4
        · rename_i fa hfa
          split at h4
          · rename_i a a' ha
            rw [Bool.and_eq_true, decide_eq_true_eq] at h4
            obtain ⟨h5, h6⟩ := h4
            obtain ⟨y, g1, g2⟩ := hl_loc hT (af_getT_mem hfa) (by decide)
            have hy := af_iv_ok hK ha
            have ey : y.toInt = a := by omega
            refine ⟨y, rf (3 * c + 1), rf (3 * c + 2), g1, hrf _ (by omega), hrf _ (by omega), ?_⟩
            unfold tk_c at h6
            simp only [Bool.and_eq_true, Bool.or_eq_true, decide_eq_true_eq] at h6
            obtain ⟨k1, k2, k3, k4, k5, k6, k7, k8⟩ := h6
            rw [ey]
            refine ⟨k1, k2, fun q => ?_, fun q => ?_, fun q => ?_, fun q => ?_, fun q => ?_, fun q => ?_⟩
            · exact tk_b_ok hT hK (k3.resolve_left (by omega)) (hrf _ (by omega))
            · exact tk_b_ok hT hK (k4.resolve_left (by omega)) (hrf _ (by omega))
            · exact tk_b_ok hT hK (k5.resolve_left (by omega)) (hrf _ (by omega))
            · exact tk_b_ok hT hK (k6.resolve_left (by omega)) (hrf _ (by omega))
            · exact tk_b_ok hT hK (k7.resolve_left (by omega)) (hrf _ (by omega))
            · exact tk_b_ok hT hK (k8.resolve_left (by omega)) (hrf _ (by omega))
          · cases h4
        · cases h4
    · cases h
  · cases h
def hd_M (c : Nat) : af_M := [(61, 4, 5), (61, 11, 19), (65, 3 * c, 3 * c + 3)]
theorem hd_bk {K : af_K} {c d d' : Nat} {w : pi_W} (hH : af_Holds aw_Sh d' K) (hz : K.1 = 266) (hpre : K.2.2.1 = (3, [.inr (.inl 61)], [((61, 4), (0, [0])), ((61, 11), (0, [1])), ((61, 32), (0, [2]))], ([(0, 0, 940), (1, 0, 4), (2, (c : Int), (c : Int))], [], []))) (hM : af_covM (hd_M c) K.2.2.2.1 = true) (hP : K.2.2.2.2.all (tk_ok c) = true) (hd : d' ≤ d) (hc : c ≤ 40) (hC : af_Conf aw_Sh w) (ht : af_wloc w 61 32 = some (.int (Int32.ofNat c))) : hq_F d hm266 (fun r w' => af_Conf aw_Sh w' ∧ af_Fr (hd_M c) w w' ∧ tq c r w') (0, lv_args 0 [.ref 61], [], w) := by
  obtain ⟨p, hp, hp1⟩ := hq_int hC (c := 61) (i := 4) (lo := 0) (hi := 940) (by decide) rfl
  obtain ⟨t, htk, ht1⟩ := hq_int hC (c := 61) (i := 11) (lo := 0) (hi := 4) (by decide) rfl
  refine (hq_holds (mz := hm266) hH hd (by rw [hz]; exact pz_266) (fun v => if v = 0 then p.toInt else if v = 1 then t.toInt else (c : Int)) hC ?_ ?_ ?_).imp ?_
  · rw [hpre]
    exact ⟨rfl, trivial⟩
  · rw [hpre]
    intro e he
    simp only [List.mem_cons, List.not_mem_nil, or_false] at he
    rcases he with rfl | rfl | rfl
    · exact hl_sl (by intro v hv; simp at hv; subst hv; exact Nat.le_of_ble_eq_true rfl) hp (by decide) (by simp [af_ev])
    · exact hl_sl (by intro v hv; simp at hv; subst hv; exact Nat.le_of_ble_eq_true rfl) htk (by decide) (by simp [af_ev])
    · exact hl_sl (by intro v hv; simp at hv; subst hv; exact Nat.le_of_ble_eq_true rfl) ht (by decide) (by rw [hn_t (by omega)]; simp [af_ev])
  · rw [hpre]
    refine ⟨?_, (fun e he => by cases he), (fun e he => by cases he)⟩
    intro e he
    simp only [List.mem_cons, List.not_mem_nil, or_false] at he
    rcases he with rfl | rfl | rfl <;> refine ⟨Nat.le_of_ble_eq_true rfl, ?_⟩ <;> simp <;> omega
  · rintro r w' ⟨q1, q2, P, hPm, hE⟩
    exact ⟨q1, q2.cov hM, tk_ok_ok hc (List.all_eq_true.mp hP P hPm) q1 hE⟩

theorem hd_book {c d : Nat} {w : pi_W} (hd : 10 ≤ d) (hc : c ≤ 40) (hC : af_Conf aw_Sh w) (ht : af_wloc w 61 32 = some (.int (Int32.ofNat c))) : hq_F d hm266 (fun r w' => af_Conf aw_Sh w' ∧ af_Fr (hd_M c) w w' ∧ tq c r w') (0, lv_args 0 [.ref 61], [], w) := by
  have hcs : c = 0 ∨ c = 1 ∨ c = 2 ∨ c = 3 ∨ c = 4 ∨ c = 5 ∨ c = 6 ∨ c = 7 ∨ c = 8 ∨ c = 9 ∨ c = 10 ∨ c = 11 ∨ c = 12 ∨ c = 13 ∨ c = 14 ∨ c = 15 ∨ c = 16 ∨ c = 17 ∨ c = 18 ∨ c = 19 ∨ c = 20 ∨ c = 21 ∨ c = 22 ∨ c = 23 ∨ c = 24 ∨ c = 25 ∨ c = 26 ∨ c = 27 ∨ c = 28 ∨ c = 29 ∨ c = 30 ∨ c = 31 ∨ c = 32 ∨ c = 33 ∨ c = 34 ∨ c = 35 ∨ c = 36 ∨ c = 37 ∨ c = 38 ∨ c = 39 ∨ c = 40 := by omega
  rcases hcs with rfl | rfl | rfl | rfl | rfl | rfl | rfl | rfl | rfl | rfl | rfl | rfl | rfl | rfl | rfl | rfl | rfl | rfl | rfl | rfl | rfl | rfl | rfl | rfl | rfl | rfl | rfl | rfl | rfl | rfl | rfl | rfl | rfl | rfl | rfl | rfl | rfl | rfl | rfl | rfl | rfl
  · exact hd_bk ah_593 rfl rfl (by decide) (by decide +kernel) (by omega) hc hC ht
  · exact hd_bk ah_598 rfl rfl (by decide) (by decide +kernel) (by omega) hc hC ht
  · exact hd_bk ah_603 rfl rfl (by decide) (by decide +kernel) (by omega) hc hC ht
  · exact hd_bk ah_608 rfl rfl (by decide) (by decide +kernel) (by omega) hc hC ht
  · exact hd_bk ah_613 rfl rfl (by decide) (by decide +kernel) (by omega) hc hC ht
  · exact hd_bk ah_618 rfl rfl (by decide) (by decide +kernel) (by omega) hc hC ht
  · exact hd_bk ah_623 rfl rfl (by decide) (by decide +kernel) (by omega) hc hC ht
  · exact hd_bk ah_628 rfl rfl (by decide) (by decide +kernel) (by omega) hc hC ht
  · exact hd_bk ah_633 rfl rfl (by decide) (by decide +kernel) (by omega) hc hC ht
  · exact hd_bk ah_638 rfl rfl (by decide) (by decide +kernel) (by omega) hc hC ht
  · exact hd_bk ah_643 rfl rfl (by decide) (by decide +kernel) (by omega) hc hC ht
  · exact hd_bk ah_648 rfl rfl (by decide) (by decide +kernel) (by omega) hc hC ht
  · exact hd_bk ah_653 rfl rfl (by decide) (by decide +kernel) (by omega) hc hC ht
  · exact hd_bk ah_658 rfl rfl (by decide) (by decide +kernel) (by omega) hc hC ht
  · exact hd_bk ah_663 rfl rfl (by decide) (by decide +kernel) (by omega) hc hC ht
  · exact hd_bk ah_668 rfl rfl (by decide) (by decide +kernel) (by omega) hc hC ht
  · exact hd_bk ah_673 rfl rfl (by decide) (by decide +kernel) (by omega) hc hC ht
  · exact hd_bk ah_678 rfl rfl (by decide) (by decide +kernel) (by omega) hc hC ht
  · exact hd_bk ah_683 rfl rfl (by decide) (by decide +kernel) (by omega) hc hC ht
  · exact hd_bk ah_688 rfl rfl (by decide) (by decide +kernel) (by omega) hc hC ht
  · exact hd_bk ah_693 rfl rfl (by decide) (by decide +kernel) (by omega) hc hC ht
  · exact hd_bk ah_698 rfl rfl (by decide) (by decide +kernel) (by omega) hc hC ht
  · exact hd_bk ah_703 rfl rfl (by decide) (by decide +kernel) (by omega) hc hC ht
  · exact hd_bk ah_708 rfl rfl (by decide) (by decide +kernel) (by omega) hc hC ht
  · exact hd_bk ah_713 rfl rfl (by decide) (by decide +kernel) (by omega) hc hC ht
  · exact hd_bk ah_718 rfl rfl (by decide) (by decide +kernel) (by omega) hc hC ht
  · exact hd_bk ah_723 rfl rfl (by decide) (by decide +kernel) (by omega) hc hC ht
  · exact hd_bk ah_728 rfl rfl (by decide) (by decide +kernel) (by omega) hc hC ht
  · exact hd_bk ah_733 rfl rfl (by decide) (by decide +kernel) (by omega) hc hC ht
  · exact hd_bk ah_738 rfl rfl (by decide) (by decide +kernel) (by omega) hc hC ht
  · exact hd_bk ah_743 rfl rfl (by decide) (by decide +kernel) (by omega) hc hC ht
  · exact hd_bk ah_748 rfl rfl (by decide) (by decide +kernel) (by omega) hc hC ht
  · exact hd_bk ah_753 rfl rfl (by decide) (by decide +kernel) (by omega) hc hC ht
  · exact hd_bk ah_758 rfl rfl (by decide) (by decide +kernel) (by omega) hc hC ht
  · exact hd_bk ah_763 rfl rfl (by decide) (by decide +kernel) (by omega) hc hC ht
  · exact hd_bk ah_768 rfl rfl (by decide) (by decide +kernel) (by omega) hc hC ht
  · exact hd_bk ah_773 rfl rfl (by decide) (by decide +kernel) (by omega) hc hC ht
  · exact hd_bk ah_778 rfl rfl (by decide) (by decide +kernel) (by omega) hc hC ht
  · exact hd_bk ah_783 rfl rfl (by decide) (by decide +kernel) (by omega) hc hC ht
  · exact hd_bk ah_788 rfl rfl (by decide) (by decide +kernel) (by omega) hc hC ht
  · exact hd_bk ah_789 rfl rfl (by decide) (by decide +kernel) (by omega) hc hC ht
theorem hd_wl {K : af_K} {d d' y : Nat} {yy : MethodName} {cc : ByteArray} {mz : pi_M} {w : pi_W} {M : af_M} {a b e : Int32} {b0 b1 e0 e1 k : Int} (hH : af_Holds aw_Sh d' K) (hz : K.1 = y) (hmz : pi_mt[y]? = some (yy, cc, mz)) (hpre : K.2.2.1 = (3, [.inr (.inl 61), .inl (0, [0]), .inl (0, [1]), .inl (0, [2])], [], ([(0, k, k), (1, b0, b1), (2, e0, e1)], [], []))) (hM : af_covM M K.2.2.2.1 = true) (hd : d' ≤ d) (hC : af_Conf aw_Sh w) (ha : a.toInt = k) (hb : b0 ≤ b.toInt ∧ b.toInt ≤ b1) (he : e0 ≤ e.toInt ∧ e.toInt ≤ e1) : hq_F d mz (fun r w' => af_Conf aw_Sh w' ∧ af_Fr M w w' ∧ ∃ P ∈ K.2.2.2.2, ∃ n ρ, af_St n ρ P.2.1 r.toList) (0, lv_args 0 [.ref 61, .int a, .int b, .int e], [], w) := by
  subst hz
  refine (hq_holds (mz := mz) hH hd hmz (fun v => if v = 0 then a.toInt else if v = 1 then b.toInt else e.toInt) hC ?_ ?_ ?_).imp ?_
  · rw [hpre]
    exact ⟨rfl, ⟨(fun v hv => by simp at hv; omega), a, rfl, by simp [af_ev]⟩, ⟨(fun v hv => by simp at hv; omega), b, rfl, by simp [af_ev]⟩, ⟨(fun v hv => by simp at hv; omega), e, rfl, by simp [af_ev]⟩, trivial⟩
  · rw [hpre]
    exact fun e he => by cases he
  · rw [hpre]
    refine ⟨?_, (fun e he => by cases he), (fun e he => by cases he)⟩
    intro x hx
    simp only [List.mem_cons, List.not_mem_nil, or_false] at hx
    rcases hx with rfl | rfl | rfl <;> refine ⟨Nat.le_of_ble_eq_true rfl, ?_⟩ <;> simp <;> omega
  · rintro r w' ⟨q1, q2, P, hPm, ρ2, -, hst, -⟩
    exact ⟨q1, q2.cov hM, P, hPm, _, ρ2, hst⟩
theorem hd_r1 {Ps : List af_Q} {r : Option Value} (hs : Ps.all (fun P => match P.2.1 with
    | [.inl _] => true
    | _ => false) = true) (h : ∃ P ∈ Ps, ∃ n ρ, af_St n ρ P.2.1 r.toList) : ∃ x : Int32, r = some (.int x) := by
  obtain ⟨P, hP, n, ρ, hst⟩ := h
  have h1 := List.all_eq_true.mp hs P hP
  split at h1
  · rename_i f hf
    rw [hf] at hst
    obtain ⟨x, hx, -⟩ := hl_res hst
    exact ⟨x, hx⟩
  · cases h1
theorem hd_r0 {Ps : List af_Q} {r : Option Value} (hs : Ps.all (fun P => P.2.1.isEmpty) = true) (h : ∃ P ∈ Ps, ∃ n ρ, af_St n ρ P.2.1 r.toList) : r = none := by
  obtain ⟨P, hP, n, ρ, hst⟩ := h
  have h1 := List.all_eq_true.mp hs P hP
  rw [List.isEmpty_iff] at h1
  rw [h1] at hst
  have h2 := af_St.nil hst
  cases r with
  | none => rfl
  | some v => cases h2
def hd_L : af_M := [(63, 115, 230)]
theorem hd_why {d : Nat} {w : pi_W} {a b e : Int32} (hd : 8 ≤ d) (hC : af_Conf aw_Sh w) (ht : tv a.toInt b.toInt e.toInt) : hq_F d hm268 (fun r w' => af_Conf aw_Sh w' ∧ af_Fr hd_L w w' ∧ ∃ x : Int32, r = some (.int x)) (0, lv_args 0 [.ref 61, .int a, .int b, .int e], [], w) := by
  obtain ⟨t1, t2, t3, t4, t5, t6, t7, t8⟩ := ht
  have hi : ∀ u : Int32, (-2147483648 : Int) ≤ u.toInt ∧ u.toInt ≤ 2147483647 := fun u => af_i32 u
  have hcs : a.toInt = 0 ∨ a.toInt = 1 ∨ a.toInt = 2 ∨ a.toInt = 3 ∨ a.toInt = 4 ∨ a.toInt = 5 ∨ a.toInt = 6 ∨ a.toInt = 7 := by omega
  rcases hcs with ha | ha | ha | ha | ha | ha | ha | ha
  · refine (hd_wl (M := hd_L) ah_561 rfl pz_268 rfl (by decide) (by omega) hC ha (t3 (by omega)) (t4 ha)).imp ?_
    rintro r w' ⟨q1, q2, q3⟩
    exact ⟨q1, q2, hd_r1 (by decide) q3⟩
  · refine (hd_wl (M := hd_L) ah_563 rfl pz_268 rfl (by decide) (by omega) hC ha (t3 (by omega)) (t5 ha)).imp ?_
    rintro r w' ⟨q1, q2, q3⟩
    exact ⟨q1, q2, hd_r1 (by decide) q3⟩
  · refine (hd_wl (M := hd_L) ah_565 rfl pz_268 rfl (by decide) (by omega) hC ha (t3 (by omega)) (hi e)).imp ?_
    rintro r w' ⟨q1, q2, q3⟩
    exact ⟨q1, q2, hd_r1 (by decide) q3⟩
  · refine (hd_wl (M := hd_L) ah_567 rfl pz_268 rfl (by decide) (by omega) hC ha (t3 (by omega)) (hi e)).imp ?_
    rintro r w' ⟨q1, q2, q3⟩
    exact ⟨q1, q2, hd_r1 (by decide) q3⟩
  · refine (hd_wl (M := hd_L) ah_569 rfl pz_268 rfl (by decide) (by omega) hC ha (t3 (by omega)) (hi e)).imp ?_
    rintro r w' ⟨q1, q2, q3⟩
    exact ⟨q1, q2, hd_r1 (by decide) q3⟩
  · refine (hd_wl (M := hd_L) ah_571 rfl pz_268 rfl (by decide) (by omega) hC ha (t3 (by omega)) (t6 ha)).imp ?_
    rintro r w' ⟨q1, q2, q3⟩
    exact ⟨q1, q2, hd_r1 (by decide) q3⟩
  · refine (hd_wl (M := hd_L) ah_573 rfl pz_268 rfl (by decide) (by omega) hC ha (t7 ha) (hi e)).imp ?_
    rintro r w' ⟨q1, q2, q3⟩
    exact ⟨q1, q2, hd_r1 (by decide) q3⟩
  · refine (hd_wl (M := hd_L) ah_575 rfl pz_268 rfl (by decide) (by omega) hC ha (t8 ha) (hi e)).imp ?_
    rintro r w' ⟨q1, q2, q3⟩
    exact ⟨q1, q2, hd_r1 (by decide) q3⟩
theorem hd_lives {d : Nat} {w : pi_W} {a b e : Int32} (hd : 9 ≤ d) (hC : af_Conf aw_Sh w) (ht : tv a.toInt b.toInt e.toInt) : hq_F d hm269 (fun r w' => af_Conf aw_Sh w' ∧ af_Fr hd_L w w' ∧ r = none) (0, lv_args 0 [.ref 61, .int a, .int b, .int e], [], w) := by
  obtain ⟨t1, t2, t3, t4, t5, t6, t7, t8⟩ := ht
  have hi : ∀ u : Int32, (-2147483648 : Int) ≤ u.toInt ∧ u.toInt ≤ 2147483647 := fun u => af_i32 u
  have hcs : a.toInt = 0 ∨ a.toInt = 1 ∨ a.toInt = 2 ∨ a.toInt = 3 ∨ a.toInt = 4 ∨ a.toInt = 5 ∨ a.toInt = 6 ∨ a.toInt = 7 := by omega
  rcases hcs with ha | ha | ha | ha | ha | ha | ha | ha
  · refine (hd_wl (M := hd_L) ah_562 rfl pz_269 rfl (by decide) (by omega) hC ha (t3 (by omega)) (t4 ha)).imp ?_
    rintro r w' ⟨q1, q2, q3⟩
    exact ⟨q1, q2, hd_r0 (by decide) q3⟩
  · refine (hd_wl (M := hd_L) ah_564 rfl pz_269 rfl (by decide) (by omega) hC ha (t3 (by omega)) (t5 ha)).imp ?_
    rintro r w' ⟨q1, q2, q3⟩
    exact ⟨q1, q2, hd_r0 (by decide) q3⟩
  · refine (hd_wl (M := hd_L) ah_566 rfl pz_269 rfl (by decide) (by omega) hC ha (t3 (by omega)) (hi e)).imp ?_
    rintro r w' ⟨q1, q2, q3⟩
    exact ⟨q1, q2, hd_r0 (by decide) q3⟩
  · refine (hd_wl (M := hd_L) ah_568 rfl pz_269 rfl (by decide) (by omega) hC ha (t3 (by omega)) (hi e)).imp ?_
    rintro r w' ⟨q1, q2, q3⟩
    exact ⟨q1, q2, hd_r0 (by decide) q3⟩
  · refine (hd_wl (M := hd_L) ah_570 rfl pz_269 rfl (by decide) (by omega) hC ha (t3 (by omega)) (hi e)).imp ?_
    rintro r w' ⟨q1, q2, q3⟩
    exact ⟨q1, q2, hd_r0 (by decide) q3⟩
  · refine (hd_wl (M := hd_L) ah_572 rfl pz_269 rfl (by decide) (by omega) hC ha (t3 (by omega)) (t6 ha)).imp ?_
    rintro r w' ⟨q1, q2, q3⟩
    exact ⟨q1, q2, hd_r0 (by decide) q3⟩
  · refine (hd_wl (M := hd_L) ah_574 rfl pz_269 rfl (by decide) (by omega) hC ha (t7 ha) (hi e)).imp ?_
    rintro r w' ⟨q1, q2, q3⟩
    exact ⟨q1, q2, hd_r0 (by decide) q3⟩
  · refine (hd_wl (M := hd_L) ah_576 rfl pz_269 rfl (by decide) (by omega) hC ha (t8 ha) (hi e)).imp ?_
    rintro r w' ⟨q1, q2, q3⟩
    exact ⟨q1, q2, hd_r0 (by decide) q3⟩
def hs_Y : af_M := [(61, 0, 2), (61, 3, 45), (63, 115, 230), (65, 0, 135), (68, 0, 920), (69, 0, 115), (73, 0, 4)]
def sq_Y (w : pi_W) (_r : Option Value) (w' : pi_W) : Prop := af_Conf aw_Sh w' ∧ af_Fr hs_Y w w'
theorem hd_l2 {d c : Nat} {x1 : Int32} {w0 : pi_W} (hd : 10 ≤ d) (hc : c ≤ 40) (hx1 : 0 ≤ x1.toInt ∧ x1.toInt ≤ 1) : ∀ (m i : Nat) (x2 : Int32) {w : pi_W} {lv : pi_L}, i + m = c → af_Conf aw_Sh w → af_Fr hs_Y w0 w → (∀ j, j < c → tw w j) → af_wloc w 61 32 = some (.int (Int32.ofNat c)) → pi_get lv 0 = some (.ref 61) → pi_get lv 1 = some (.int x1) → pi_get lv 2 = some (.int x2) → pi_get lv 3 = some (.int (Int32.ofNat i)) → hq_F (d + 1) hm270 (sq_Y w0) (111, lv, [], w) := by
  have hi : ∀ u : Int32, (-2147483648 : Int) ≤ u.toInt ∧ u.toInt ≤ 2147483647 := fun u => af_i32 u
  have hend : ∀ {x2 : Int32} {w : pi_W} {lv : pi_L}, af_Conf aw_Sh w → af_Fr hs_Y w0 w → pi_get lv 0 = some (.ref 61) → pi_get lv 1 = some (.int x1) → pi_get lv 2 = some (.int x2) → hq_F (d + 1) hm270 (sq_Y w0) (233, lv, [], w) := by
    intro x2 w lv hC hF g0 g1 g2
    have h2 := hi x2
    have hSat : af_Sat aw_Sh (fun v => if v = 0 then x1.toInt else x2.toInt) dg_s (233, lv, [], w) := by
      refine ⟨?_, trivial, hC, (fun e he => by cases he), ?_, (fun e he => by cases he), (fun e he => by cases he)⟩
      · intro e he
        simp only [dg_s, List.mem_cons, List.not_mem_nil, or_false] at he
        rcases he with rfl | rfl | rfl
        · exact ⟨_, g0, rfl⟩
        · exact ⟨_, g1, (fun v hv => by simp at hv; subst hv; decide), _, rfl, by simp [af_ev]⟩
        · exact ⟨_, g2, (fun v hv => by simp at hv; subst hv; decide), _, rfl, by simp [af_ev]⟩
      · intro e he
        simp only [dg_s, List.mem_cons, List.not_mem_nil, or_false] at he
        rcases he with rfl | rfl <;> refine ⟨by decide, ?_⟩ <;> simp <;> omega
    refine ax_seg (Φ := hq_F _ _ _) (G := dg_G) (d := d) (mi := hm270) (nl := 8) rfl (fun K hK => (dg_h K hK).mono (by omega)) dg_w dg_l dg_r rfl hSat (fun s s' h1 h2 => hq_F.to h1 h2) (fun s hfin => hq_fin hfin (fun r w' hC' hF' _ => ⟨hC', hF.tr (hF'.cov (by decide))⟩)) (fun s' q ρ' hq => absurd hq (by simp [dg_G]))
  intro m
  induction m with
  | zero =>
    intro i x2 w lv hm hC hF ht h32 g0 g1 g2 g3
    refine hq_F.st (s' := (112, _, _, _)) hf270_111 rfl rfl rfl (hs_iln g3) ?_
    refine hq_F.st (s' := (113, _, _, _)) hf270_112 rfl rfl rfl (hs_al g0) ?_
    refine hq_F.st (s' := (116, _, _, _)) hf270_113 rfl rfl rfl (hq_gf hC hq_s61 hk_406 h32) ?_
    refine hq_F.st (s' := (233, _, _, _)) hf270_116 rfl rfl rfl (hs_ic (hc_ge (by rw [hn_t (by omega), hn_t (by omega)]; omega)) rfl) ?_
    exact hend hC hF g0 g1 g2
  | succ m ih =>
    intro i x2 w lv hm hC hF ht h32 g0 g1 g2 g3
    refine hq_F.st (s' := (112, _, _, _)) hf270_111 rfl rfl rfl (hs_iln g3) ?_
    refine hq_F.st (s' := (113, _, _, _)) hf270_112 rfl rfl rfl (hs_al g0) ?_
    refine hq_F.st (s' := (116, _, _, _)) hf270_113 rfl rfl rfl (hq_gf hC hq_s61 hk_406 h32) ?_
    refine hq_F.st (s' := (119, _, _, _)) hf270_116 rfl rfl rfl (hs_icn (t := 233) (hc_gen (by rw [hn_t (by omega), hn_t (by omega)]; omega)) rfl) ?_
    refine hq_F.st (s' := (120, _, _, _)) hf270_119 rfl rfl rfl (hs_iln g2) ?_
    by_cases hx2 : (0 : Int32).toInt ≤ x2.toInt
    · refine hq_F.st (s' := (233, _, _, _)) hf270_120 rfl rfl rfl (hs_if (hc_ge hx2) rfl) ?_
      exact hend hC hF g0 g1 g2
    · refine hq_F.st (s' := (123, _, _, _)) hf270_120 rfl rfl rfl (hs_ifn (t := 233) (hc_gen (by omega)) rfl) ?_
      obtain ⟨a, b, e, t1, t2, t3, t4⟩ := ht i (by omega)
      refine hq_F.st (s' := (124, _, _, _)) hf270_123 rfl rfl rfl rfl ?_
      refine hq_F.st (s' := (125, _, _, _)) hf270_124 rfl rfl rfl (hs_iln g3) ?_
      refine hq_F.st (s' := (126, _, _, _)) hf270_125 rfl rfl rfl hs_m3 ?_
      refine hq_F.st (s' := (128, _, _, _)) hf270_126 rfl rfl rfl (hs_st (by decide)) ?_
      have p0 : pi_get (pi_set lv 4 (.int (Int32.ofNat (3 * i)))) 0 = some (.ref 61) := pi_get_set_ne g0 (by decide) (fun q => (show ¬ ((1 : Nat) = 2) by decide) q.2)
      have p1 : pi_get (pi_set lv 4 (.int (Int32.ofNat (3 * i)))) 1 = some (.int x1) := hg_ne g1 (by decide)
      have p2 : pi_get (pi_set lv 4 (.int (Int32.ofNat (3 * i)))) 2 = some (.int x2) := hg_ne g2 (by decide)
      have p3 : pi_get (pi_set lv 4 (.int (Int32.ofNat (3 * i)))) 3 = some (.int (Int32.ofNat i)) := hg_ne g3 (by decide)
      have p4 : pi_get (pi_set lv 4 (.int (Int32.ofNat (3 * i)))) 4 = some (.int (Int32.ofNat (3 * i))) := pi_get_set _ _ _
      revert p0 p1 p2 p3 p4
      generalize pi_set lv 4 (.int (Int32.ofNat (3 * i))) = lv1
      intro p0 p1 p2 p3 p4
      have hback : ∀ (y2 : Int32) {w' : pi_W} {lv' : pi_L}, af_Conf aw_Sh w' → af_Fr hs_Y w0 w' → (∀ j, j < c → tw w' j) → af_wloc w' 61 32 = some (.int (Int32.ofNat c)) → pi_get lv' 0 = some (.ref 61) → pi_get lv' 1 = some (.int x1) → pi_get lv' 2 = some (.int y2) → pi_get lv' 3 = some (.int (Int32.ofNat i)) → hq_F (d + 1) hm270 (sq_Y w0) (227, lv', [], w') := by
        intro y2 w' lv' hC' hF' ht' h32' q0 q1 q2 q3
        refine hq_F.st (s' := (230, _, _, _)) hf270_227 rfl rfl rfl (hs_inc q3 (by decide)) ?_
        rw [hn_s]
        refine hq_F.st (s' := (111, _, _, _)) hf270_230 rfl rfl rfl rfl ?_
        exact ih (i + 1) y2 (by omega) hC' hF' ht' h32' (pi_get_set_ne q0 (by decide) (fun q => (show ¬ ((1 : Nat) = 2) by decide) q.2)) (hg_ne q1 (by decide)) (hg_ne q2 (by decide)) (pi_get_set _ _ _)
      refine hq_F.st (s' := (129, _, _, _)) hf270_128 rfl rfl rfl (hs_al p0) ?_
      refine hq_F.st (s' := (130, _, _, _)) hf270_129 rfl rfl rfl (hs_al p0) ?_
      refine hq_F.st (s' := (133, _, _, _)) hf270_130 rfl rfl rfl (hq_gf hC hq_s61 hk_40 (hq_ref hC hq_s61 (b := 65) rfl)) ?_
      refine hq_F.st (s' := (135, _, _, _)) hf270_133 rfl rfl rfl (hs_il p4) ?_
      refine hq_F.st (s' := (136, _, _, _)) hf270_135 rfl rfl rfl (hq_ia hC hq_s65 (hn_t (by omega)) t1) ?_
      refine hq_F.st (s' := (137, _, _, _)) hf270_136 rfl rfl rfl (hs_al p0) ?_
      refine hq_F.st (s' := (140, _, _, _)) hf270_137 rfl rfl rfl (hq_gf hC hq_s61 hk_40 (hq_ref hC hq_s61 (b := 65) rfl)) ?_
      refine hq_F.st (s' := (142, _, _, _)) hf270_140 rfl rfl rfl (hs_il p4) ?_
      refine hq_F.st (s' := (143, _, _, _)) hf270_142 rfl rfl rfl rfl ?_
      refine hq_F.st (s' := (144, _, _, _)) hf270_143 rfl rfl rfl hs_p1 ?_
      refine hq_F.st (s' := (145, _, _, _)) hf270_144 rfl rfl rfl (hq_ia hC hq_s65 (hn_t (by omega)) t2) ?_
      refine hq_F.st (s' := (146, _, _, _)) hf270_145 rfl rfl rfl (hs_al p0) ?_
      refine hq_F.st (s' := (149, _, _, _)) hf270_146 rfl rfl rfl (hq_gf hC hq_s61 hk_40 (hq_ref hC hq_s61 (b := 65) rfl)) ?_
      refine hq_F.st (s' := (151, _, _, _)) hf270_149 rfl rfl rfl (hs_il p4) ?_
      refine hq_F.st (s' := (152, _, _, _)) hf270_151 rfl rfl rfl rfl ?_
      refine hq_F.st (s' := (153, _, _, _)) hf270_152 rfl rfl rfl hs_p2 ?_
      refine hq_F.st (s' := (154, _, _, _)) hf270_153 rfl rfl rfl (hq_ia hC hq_s65 (hn_t (by omega)) t3) ?_
      refine hq_F.call hf270_154 rfl rfl hi_415 (by decide) (by decide) pz_268 (hq_args (mz := hm268) hC (As := [.int a, .int b, .int e]) rfl rfl rfl (Nat.zero_le _) rfl (Nat.le_refl _) rfl (by decide)) (hd_why (d := d) (by omega) hC t4) (fun r w' q => by rw [q.1.1, hC.1]) ?_
      rintro r w1 ⟨hC1, hF1, x5, rfl⟩
      have hw1 : ∀ j, af_wloc w1 65 j = af_wloc w 65 j := fun j => hq_cell hF1 (by decide)
      have h321 : af_wloc w1 61 32 = some (.int (Int32.ofNat c)) := (hF1 61 32 (by decide)).trans h32
      have hFY1 : af_Fr hs_Y w0 w1 := hF.tr (hF1.cov (by decide))
      have b2 := hi x2
      have b5 := hi x5
      have hSat : af_Sat aw_Sh (fun v => if v = 0 then x1.toInt else if v = 1 then x2.toInt else if v = 2 then (i : Int) else if v = 3 then ((3 * i : Nat) : Int) else if v = 4 then (c : Int) else x5.toInt) de_s (157, lv1, [.int x5], w1) := by
        refine ⟨?_, ⟨⟨(fun v hv => by simp at hv; subst hv; decide), x5, rfl, by simp [af_ev]⟩, trivial⟩, hC1, ?_, ?_, (fun e he => by cases he), (fun e he => by cases he)⟩
        · intro e he
          simp only [de_s, List.mem_cons, List.not_mem_nil, or_false] at he
          rcases he with rfl | rfl | rfl | rfl | rfl
          · exact ⟨_, p0, rfl⟩
          · exact ⟨_, p1, (fun v hv => by simp at hv; subst hv; decide), _, rfl, by simp [af_ev]⟩
          · exact ⟨_, p2, (fun v hv => by simp at hv; subst hv; decide), _, rfl, by simp [af_ev]⟩
          · exact ⟨_, p3, (fun v hv => by simp at hv; subst hv; decide), _, rfl, by rw [hn_t (by omega)]; simp [af_ev]⟩
          · exact ⟨_, p4, (fun v hv => by simp at hv; subst hv; decide), _, rfl, by rw [hn_t (by omega)]; simp [af_ev]⟩
        · intro e he
          simp only [de_s, List.mem_singleton] at he
          subst he
          exact hl_sl (by intro v hv; simp at hv; subst hv; decide) h321 (by decide) (by rw [hn_t (by omega)]; simp [af_ev])
        · intro e he
          simp only [de_s, List.mem_cons, List.not_mem_nil, or_false] at he
          rcases he with rfl | rfl | rfl | rfl | rfl | rfl <;> refine ⟨by decide, ?_⟩ <;> simp <;> omega
      refine ax_seg (Φ := hq_F _ _ _) (G := de_G) (d := d) (mi := hm270) (nl := 0) rfl (fun K hK => (de_h K hK).mono (by omega)) de_w de_l de_r rfl hSat (fun s s' h1 h2 => hq_F.to h1 h2) (fun s hfin => hq_fin hfin (fun r w' hC' hF' hP' => ?_)) (fun s' q ρ' hq hpc hS hag hF2 => ?_)
      · obtain ⟨P, hPm, -⟩ := hP'
        simp [de_G] at hPm
      · obtain ⟨pc', lv2, st', w2⟩ := s'
        have a0 := hag 0 (by decide)
        have a1 := hag 1 (by decide)
        have a2 := hag 2 (by decide)
        have a3 := hag 3 (by decide)
        simp at a0 a1 a2 a3
        have hw2 : ∀ j, af_wloc w2 65 j = af_wloc w 65 j := fun j => (hq_cell hF2 (by decide)).trans (hw1 j)
        have h322 : af_wloc w2 61 32 = some (.int (Int32.ofNat c)) := (hF2 61 32 (by decide)).trans h321
        have hFY2 : af_Fr hs_Y w0 w2 := hFY1.tr (hF2.cov (by decide))
        have ht2 : ∀ j, j < c → tw w2 j := fun j hj => (ht j hj).fr (fun k _ _ => hw2 k)
        simp only [de_G, List.drop, List.mem_cons, List.not_mem_nil, or_false] at hq
        rcases hq with rfl | rfl
        · dsimp only at hpc hS
          subst hpc
          obtain ⟨hL, hst, hC2, hT, hK⟩ := hS
          replace hC2 : af_Conf aw_Sh w2 := hC2
          dsimp only at hL hst hT hK
          have hstn := af_St.nil hst
          subst hstn
          have q0 := hl_ref hL (i := 0) (k := 61) (by simp)
          obtain ⟨y1, q1, f1⟩ := hl_int hL (i := 1) (f := (0, [0])) (by simp)
          obtain ⟨y2, q2, f2⟩ := hl_int hL (i := 2) (f := (0, [1])) (by simp)
          obtain ⟨y3, q3, f3⟩ := hl_int hL (i := 3) (f := (0, [2])) (by simp)
          obtain ⟨y4, q4, f4⟩ := hl_int hL (i := 4) (f := (0, [3])) (by simp)
          rw [af_ev_1] at f1 f2 f3 f4
          have e1 : y1 = x1 := Int32.toInt_inj.mp (by omega)
          have e2 : y2 = x2 := Int32.toInt_inj.mp (by omega)
          have e3 : y3 = Int32.ofNat i := hn_e (by omega) (by omega)
          have e4 : y4 = Int32.ofNat (3 * i) := hn_e (by omega) (by omega)
          subst e1 e2 e3 e4
          have s1 := (hw2 _).trans t1
          have s2 := (hw2 _).trans t2
          have s3 := (hw2 _).trans t3
          refine hq_F.st (s' := (189, _, _, _)) hf270_188 rfl rfl rfl (hs_al q0) ?_
          refine hq_F.st (s' := (190, _, _, _)) hf270_189 rfl rfl rfl (hs_al q0) ?_
          refine hq_F.st (s' := (193, _, _, _)) hf270_190 rfl rfl rfl (hq_gf hC2 hq_s61 hk_40 (hq_ref hC2 hq_s61 (b := 65) rfl)) ?_
          refine hq_F.st (s' := (195, _, _, _)) hf270_193 rfl rfl rfl (hs_il q4) ?_
          refine hq_F.st (s' := (196, _, _, _)) hf270_195 rfl rfl rfl (hq_ia hC2 hq_s65 (hn_t (by omega)) s1) ?_
          refine hq_F.st (s' := (197, _, _, _)) hf270_196 rfl rfl rfl (hs_al q0) ?_
          refine hq_F.st (s' := (200, _, _, _)) hf270_197 rfl rfl rfl (hq_gf hC2 hq_s61 hk_40 (hq_ref hC2 hq_s61 (b := 65) rfl)) ?_
          refine hq_F.st (s' := (202, _, _, _)) hf270_200 rfl rfl rfl (hs_il q4) ?_
          refine hq_F.st (s' := (203, _, _, _)) hf270_202 rfl rfl rfl rfl ?_
          refine hq_F.st (s' := (204, _, _, _)) hf270_203 rfl rfl rfl hs_p1 ?_
          refine hq_F.st (s' := (205, _, _, _)) hf270_204 rfl rfl rfl (hq_ia hC2 hq_s65 (hn_t (by omega)) s2) ?_
          refine hq_F.st (s' := (206, _, _, _)) hf270_205 rfl rfl rfl (hs_al q0) ?_
          refine hq_F.st (s' := (209, _, _, _)) hf270_206 rfl rfl rfl (hq_gf hC2 hq_s61 hk_40 (hq_ref hC2 hq_s61 (b := 65) rfl)) ?_
          refine hq_F.st (s' := (211, _, _, _)) hf270_209 rfl rfl rfl (hs_il q4) ?_
          refine hq_F.st (s' := (212, _, _, _)) hf270_211 rfl rfl rfl rfl ?_
          refine hq_F.st (s' := (213, _, _, _)) hf270_212 rfl rfl rfl hs_p2 ?_
          refine hq_F.st (s' := (214, _, _, _)) hf270_213 rfl rfl rfl (hq_ia hC2 hq_s65 (hn_t (by omega)) s3) ?_
          refine hq_F.call hf270_214 rfl rfl hi_418 (by decide) (by decide) pz_269 (hq_args (mz := hm269) hC2 (As := [.int a, .int b, .int e]) rfl rfl rfl (Nat.zero_le _) rfl (Nat.le_refl _) rfl (by decide)) (hd_lives (d := d) (by omega) hC2 t4) (fun r w' q => by rw [q.1.1, hC2.1]) ?_
          rintro r w3 ⟨hC3, hF3, rfl⟩
          have h323 : af_wloc w3 61 32 = some (.int (Int32.ofNat c)) := (hF3 61 32 (by decide)).trans h322
          have hSat : af_Sat aw_Sh (fun v => if v = 0 then y1.toInt else if v = 1 then y2.toInt else if v = 2 then (i : Int) else if v = 3 then ((3 * i : Nat) : Int) else (c : Int)) df_s (217, lv2, [], w3) := by
            refine ⟨?_, trivial, hC3, ?_, ?_, (fun e he => by cases he), (fun e he => by cases he)⟩
            · intro e he
              simp only [df_s, List.mem_cons, List.not_mem_nil, or_false] at he
              rcases he with rfl | rfl | rfl | rfl | rfl
              · exact ⟨_, q0, rfl⟩
              · exact ⟨_, q1, (fun v hv => by simp at hv; subst hv; decide), _, rfl, by simp [af_ev]⟩
              · exact ⟨_, q2, (fun v hv => by simp at hv; subst hv; decide), _, rfl, by simp [af_ev]⟩
              · exact ⟨_, q3, (fun v hv => by simp at hv; subst hv; decide), _, rfl, by rw [hn_t (by omega)]; simp [af_ev]⟩
              · exact ⟨_, q4, (fun v hv => by simp at hv; subst hv; decide), _, rfl, by rw [hn_t (by omega)]; simp [af_ev]⟩
            · intro e he
              simp only [df_s, List.mem_singleton] at he
              subst he
              exact hl_sl (by intro v hv; simp at hv; subst hv; decide) h323 (by decide) (by rw [hn_t (by omega)]; simp [af_ev])
            · intro e he
              simp only [df_s, List.mem_cons, List.not_mem_nil, or_false] at he
              rcases he with rfl | rfl | rfl | rfl | rfl <;> refine ⟨by decide, ?_⟩ <;> simp <;> omega
          refine ax_seg (Φ := hq_F _ _ _) (G := df_G) (d := d) (mi := hm270) (nl := 0) rfl (fun K hK => (df_h K hK).mono (by omega)) df_w df_l df_r rfl hSat (fun s s' h1 h2 => hq_F.to h1 h2) (fun s hfin => hq_fin hfin (fun r w' hC' hF' hP' => ?_)) (fun s' q ρ2 hq hpc hS hag2 hF4 => ?_)
          · obtain ⟨P, hPm, -⟩ := hP'
            simp [df_G] at hPm
          · obtain ⟨pc', lv4, st', w4⟩ := s'
            have c0 := hag2 0 (by decide)
            have c1 := hag2 1 (by decide)
            have c2 := hag2 2 (by decide)
            simp at c0 c1 c2
            simp only [df_G, List.drop, List.mem_singleton] at hq
            subst hq
            dsimp only at hpc hS
            subst hpc
            obtain ⟨hL, hst, hC4, hT, hK⟩ := hS
            replace hC4 : af_Conf aw_Sh w4 := hC4
            dsimp only at hL hst hT hK
            have hstn := af_St.nil hst
            subst hstn
            obtain ⟨z1, r1, g1'⟩ := hl_int hL (i := 1) (f := (0, [0])) (by simp)
            obtain ⟨z2, r2, g2'⟩ := hl_int hL (i := 2) (f := (0, [1])) (by simp)
            obtain ⟨z3, r3, g3'⟩ := hl_int hL (i := 3) (f := (0, [2])) (by simp)
            rw [af_ev_1] at g1' g2' g3'
            have e1 : z1 = y1 := Int32.toInt_inj.mp (by omega)
            have e3 : z3 = Int32.ofNat i := hn_e (by omega) (by omega)
            subst e1 e3
            have hw4 : ∀ j, af_wloc w4 65 j = af_wloc w2 65 j := fun j => (hq_cell hF4 (by decide)).trans (hq_cell hF3 (by decide))
            exact hback z2 hC4 (hFY2.tr ((hF3.cov (by decide)).tr (hF4.cov (by decide)))) (fun j hj => (ht2 j hj).fr (fun k _ _ => hw4 k)) ((hF4 61 32 (by decide)).trans h323) (hl_ref hL (by simp)) r1 r2 r3
        · dsimp only at hpc hS
          subst hpc
          obtain ⟨hL, hst, hC2, hT, hK⟩ := hS
          replace hC2 : af_Conf aw_Sh w2 := hC2
          dsimp only at hL hst hT hK
          have hstn := af_St.nil hst
          subst hstn
          obtain ⟨y1, q1, f1⟩ := hl_int hL (i := 1) (f := (0, [0])) (by simp)
          obtain ⟨y2, q2, f2⟩ := hl_int hL (i := 2) (f := (0, [2])) (by simp)
          obtain ⟨y3, q3, f3⟩ := hl_int hL (i := 3) (f := (0, [2])) (by simp)
          rw [af_ev_1] at f1 f2 f3
          have e1 : y1 = x1 := Int32.toInt_inj.mp (by omega)
          have e3 : y3 = Int32.ofNat i := hn_e (by omega) (by omega)
          subst e1 e3
          exact hback y2 hC2 hFY2 ht2 h322 (hl_ref hL (by simp)) q1 q2 q3
theorem hd_l1 {d : Nat} {x1 : Int32} {w0 : pi_W} (hd : 10 ≤ d) (hx1 : 0 ≤ x1.toInt ∧ x1.toInt ≤ 1) : ∀ (m c : Nat) {w : pi_W} {lv : pi_L}, c + m = 40 → af_Conf aw_Sh w → af_Fr hs_Y w0 w → (∀ j, j < c → tw w j) → af_wloc w 61 32 = some (.int (Int32.ofNat c)) → pi_get lv 0 = some (.ref 61) → pi_get lv 1 = some (.int x1) → hq_F (d + 1) hm270 (sq_Y w0) (39, lv, [], w) := by
  intro m
  induction m using Nat.strongRecOn with
  | ind m ih =>
    intro c w lv hm hC hF ht h32 g0 g1
    obtain ⟨tk, htk, -⟩ := hq_int hC (c := 61) (i := 11) (by decide) rfl
    refine hq_F.st (s' := (40, _, _, _)) hf270_39 rfl rfl rfl (hs_al g0) ?_
    refine hq_F.st (s' := (43, _, _, _)) hf270_40 rfl rfl rfl (hq_gf hC hq_s61 hk_152 htk) ?_
    by_cases h0 : tk = 0
    · refine hq_F.st (s' := (83, _, _, _)) hf270_43 rfl rfl rfl (hs_if (hc_eq h0) rfl) ?_
      have hSat : af_Sat aw_Sh (fun v => if v = 0 then x1.toInt else (c : Int)) dd_s (83, lv, [], w) := by
        refine ⟨?_, trivial, hC, ?_, ?_, (fun e he => by cases he), (fun e he => by cases he)⟩
        · intro e he
          simp only [dd_s, List.mem_cons, List.not_mem_nil, or_false] at he
          rcases he with rfl | rfl
          · exact ⟨_, g0, rfl⟩
          · exact ⟨_, g1, (fun v hv => by simp at hv; subst hv; decide), _, rfl, by simp [af_ev]⟩
        · intro e he
          simp only [dd_s, List.mem_singleton] at he
          subst he
          exact hl_sl (by intro v hv; simp at hv; subst hv; decide) h32 (by decide) (by rw [hn_t (by omega)]; simp [af_ev])
        · intro e he
          simp only [dd_s, List.mem_cons, List.not_mem_nil, or_false] at he
          rcases he with rfl | rfl <;> refine ⟨by decide, ?_⟩ <;> simp <;> omega
      refine ax_seg (Φ := hq_F _ _ _) (G := dd_G) (d := d) (mi := hm270) (nl := 1) rfl (fun K hK => (dd_h K hK).mono (by omega)) dd_w dd_l dd_r rfl hSat (fun s s' h1 h2 => hq_F.to h1 h2) (fun s hfin => hq_fin hfin (fun r w' hC' hF' hP' => ?_)) (fun s' q ρ' hq hpc hS hag hF2 => ?_)
      · obtain ⟨P, hPm, -⟩ := hP'
        simp [dd_G] at hPm
      · obtain ⟨pc', lv2, st', w2⟩ := s'
        have a0 := hag 0 (by decide)
        simp at a0
        simp only [dd_G, List.drop, List.mem_singleton] at hq
        subst hq
        dsimp only at hpc hS
        subst hpc
        obtain ⟨hL, hst, hC2, hT, hK⟩ := hS
        replace hC2 : af_Conf aw_Sh w2 := hC2
        dsimp only at hL hst hT hK
        have hstn := af_St.nil hst
        subst hstn
        obtain ⟨y1, q1, f1⟩ := hl_int hL (i := 1) (f := (0, [0])) (by simp)
        obtain ⟨y2, q2, f2⟩ := hl_int hL (i := 2) (f := (-1, [])) (by simp)
        obtain ⟨y3, q3, f3⟩ := hl_int hL (i := 3) (f := (0, [])) (by simp)
        rw [af_ev_1] at f1
        rw [af_ev_c] at f3
        have e1 : y1 = x1 := Int32.toInt_inj.mp (by omega)
        have e3 : y3 = Int32.ofNat 0 := hn_e (by omega) (by omega)
        subst e1 e3
        exact hd_l2 hd (by omega) hx1 c 0 y2 (by omega) hC2 (hF.tr (hF2.cov (by decide))) (fun j hj => (ht j hj).fr (fun k _ _ => hq_cell hF2 (by decide))) ((hF2 61 32 (by decide)).trans h32) (hl_ref hL (by simp)) q1 q2 q3
    · refine hq_F.st (s' := (46, _, _, _)) hf270_43 rfl rfl rfl (hs_ifn (t := 83) (hc_eqn h0) rfl) ?_
      refine hq_F.st (s' := (47, _, _, _)) hf270_46 rfl rfl rfl (hs_al g0) ?_
      refine hq_F.call hf270_47 rfl rfl hi_412 (by decide) (by decide) pz_266 (hq_args (mz := hm266) hC (As := []) rfl rfl rfl (Nat.zero_le _) rfl (by decide) rfl (by decide)) (hd_book (d := d) (by omega) (by omega) hC h32) (fun r w' q => by rw [q.1.1, hC.1]) ?_
      rintro r w1 ⟨hC1, hF1, hr⟩
      have hcov : ∀ j i', af_cov (hd_M c) j i' i' = true → (j = 61 ∧ 3 ≤ i' ∧ i' < 19) ∨ (j = 65 ∧ 3 * c ≤ i' ∧ i' < 3 * c + 3) := by
        intro j i' h
        unfold af_cov hd_M at h
        simp only [List.any_cons, List.any_nil, Bool.or_false, Bool.or_eq_true, Bool.and_eq_true, beq_iff_eq, Nat.ble_eq, Nat.blt_eq] at h
        omega
      have hFY1 : af_Fr hs_Y w0 w1 := hF.tr (hq_fr hF1 (fun j i' h => by
        have := hcov j i' h
        unfold af_cov hs_Y
        simp only [List.any_cons, List.any_nil, Bool.or_false, Bool.or_eq_true, Bool.and_eq_true, beq_iff_eq, Nat.ble_eq, Nat.blt_eq]
        omega))
      have hno : ∀ j i', ¬ ((j = 61 ∧ 3 ≤ i' ∧ i' < 19) ∨ (j = 65 ∧ 3 * c ≤ i' ∧ i' < 3 * c + 3)) → af_wloc w1 j i' = af_wloc w j i' := fun j i' h => hF1 j i' (by
        cases hk : af_cov (hd_M c) j i' i' with
        | false => rfl
        | true => exact absurd (hcov j i' hk) h)
      rcases hr with rfl | ⟨rfl, hc40, htw⟩
      · refine hq_F.st (s' := (62, _, _, _)) hf270_50 rfl rfl rfl (hs_if rfl rfl) ?_
        refine ax_seg (Φ := hq_F _ _ _) (G := dc_G) (d := d) (mi := hm270) (nl := 0) (ρ0 := fun _ => 0) rfl (fun K hK => (dc_h K hK).mono (by omega)) dc_w dc_l dc_r rfl (hl_Sat0 g0 hC1) (fun s s' h1 h2 => hq_F.to h1 h2) (fun s hfin => hq_fin hfin (fun r w' hC' hF' _ => ⟨hC', hFY1.tr (hF'.cov (by decide))⟩)) (fun s' q ρ' hq => absurd hq (by simp [dc_G]))
      · refine hq_F.st (s' := (53, _, _, _)) hf270_50 rfl rfl rfl (hs_ifn (t := 62) rfl rfl) ?_
        have h321 : af_wloc w1 61 32 = some (.int (Int32.ofNat c)) := (hno 61 32 (by omega)).trans h32
        have ht1 : ∀ j, j < c + 1 → tw w1 j := by
          intro j hj
          by_cases e : j = c
          · rw [e]
            exact htw
          · exact (ht j (by omega)).fr (fun k _ _ => hno 65 k (by omega))
        have hSat : af_Sat aw_Sh (fun v => if v = 0 then (c : Int) else x1.toInt) db_s (53, lv, [], w1) := by
          refine ⟨?_, trivial, hC1, ?_, ?_, (fun e he => by cases he), (fun e he => by cases he)⟩
          · intro e he
            simp only [db_s, List.mem_cons, List.not_mem_nil, or_false] at he
            rcases he with rfl | rfl
            · exact ⟨_, g0, rfl⟩
            · exact ⟨_, g1, (fun v hv => by simp at hv; subst hv; decide), _, rfl, by simp [af_ev]⟩
          · intro e he
            simp only [db_s, List.mem_singleton] at he
            subst he
            exact hl_sl (by intro v hv; simp at hv; subst hv; decide) h321 (by decide) (by rw [hn_t (by omega)]; simp [af_ev])
          · intro e he
            simp only [db_s, List.mem_cons, List.not_mem_nil, or_false] at he
            rcases he with rfl | rfl <;> refine ⟨by decide, ?_⟩ <;> simp <;> omega
        refine ax_seg (Φ := hq_F _ _ _) (G := db_G) (d := d) (mi := hm270) (nl := 0) rfl (fun K hK => (db_h K hK).mono (by omega)) db_w db_l db_r rfl hSat (fun s s' h1 h2 => hq_F.to h1 h2) (fun s hfin => hq_fin hfin (fun r w' hC' hF' _ => ⟨hC', hFY1.tr (hF'.cov (by decide))⟩)) (fun s' q ρ' hq hpc hS hag hF2 => ?_)
        obtain ⟨pc', lv2, st', w2⟩ := s'
        have a0 := hag 0 (by decide)
        have a1 := hag 1 (by decide)
        simp at a0 a1
        simp only [db_G, List.drop, List.mem_singleton] at hq
        subst hq
        dsimp only at hpc hS
        subst hpc
        obtain ⟨hL, hst, hC2, hT, hK⟩ := hS
        replace hC2 : af_Conf aw_Sh w2 := hC2
        dsimp only at hL hst hT hK
        have hstn := af_St.nil hst
        subst hstn
        obtain ⟨y1, q1, f1⟩ := hl_int hL (i := 1) (f := (0, [1])) (by simp)
        obtain ⟨y2, q2, f2⟩ := hl_loc hT (c := 61) (i := 32) (f := (1, [0])) (by simp) (by decide)
        rw [af_ev_1] at f1 f2
        have e1 : y1 = x1 := Int32.toInt_inj.mp (by omega)
        have e2 : y2 = Int32.ofNat (c + 1) := hn_e (by omega) (by omega)
        subst e1 e2
        exact ih (m - 1) (by omega) (c + 1) (by omega) hC2 (hFY1.tr (hF2.cov (by decide))) (fun j hj => (ht1 j hj).fr (fun k _ _ => hq_cell hF2 (by decide))) q2 (hl_ref hL (by simp)) q1
