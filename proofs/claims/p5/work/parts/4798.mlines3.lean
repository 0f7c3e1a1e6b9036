/-! ===== the model: line; by program ===== -/
theorem si_11_206 : pi_look pi_iT 11 206 = some (2, 178, 1, 1410) := rfl
theorem si_11_213 : pi_look pi_iT 11 213 = some (2, 189, 0, 1430) := rfl
theorem si_11_216 : pi_look pi_iT 11 216 = some (2, 190, 1, 1445) := rfl
theorem si_11_226 : pi_look pi_iT 11 226 = some (2, 191, 0, 1464) := rfl
def sm188 : pi_M := (11, 2, (some .boolean), false, mc_188)
set_option maxRecDepth 100000 in
theorem sz_188 : pi_mt[188]? = some (mn_188, prog_13_method_28_code, (11, 2, (some .boolean), false, mc_188)) := rfl
theorem hg188_0 : pi_fetch mc_188 0 = some (.aload_n 0, 1) := rfl
theorem hg188_1 : pi_fetch mc_188 1 = some (.ldc2_w 84, 3) := rfl
theorem hg188_4 : pi_fetch mc_188 4 = some (.invokevirtual 206, 3) := rfl
theorem hg188_7 : pi_fetch mc_188 7 = some (.ifCond .eq 54, 3) := rfl
theorem hg188_10 : pi_fetch mc_188 10 = some (.aload_n 0, 1) := rfl
theorem hg188_11 : pi_fetch mc_188 11 = some (.getfield 37, 3) := rfl
theorem hg188_14 : pi_fetch mc_188 14 = some (.iconst 0, 1) := rfl
theorem hg188_15 : pi_fetch mc_188 15 = some (.iaload, 1) := rfl
theorem hg188_16 : pi_fetch mc_188 16 = some (.bipush 10, 2) := rfl
theorem hg188_18 : pi_fetch mc_188 18 = some (.if_icmp .ne 9, 3) := rfl
theorem hg188_21 : pi_fetch mc_188 21 = some (.aload_n 0, 1) := rfl
theorem hg188_22 : pi_fetch mc_188 22 = some (.iconst 4, 1) := rfl
theorem hg188_23 : pi_fetch mc_188 23 = some (.invokevirtual 178, 3) := rfl
theorem hg188_26 : pi_fetch mc_188 26 = some (.ireturn, 1) := rfl
theorem hg188_27 : pi_fetch mc_188 27 = some (.aload_n 0, 1) := rfl
theorem hg188_28 : pi_fetch mc_188 28 = some (.invokevirtual 181, 3) := rfl
theorem hg188_31 : pi_fetch mc_188 31 = some (.aload_n 0, 1) := rfl
theorem hg188_32 : pi_fetch mc_188 32 = some (.bipush 27, 2) := rfl
theorem hg188_34 : pi_fetch mc_188 34 = some (.aload_n 0, 1) := rfl
theorem hg188_35 : pi_fetch mc_188 35 = some (.getfield 37, 3) := rfl
theorem hg188_38 : pi_fetch mc_188 38 = some (.iconst 0, 1) := rfl
theorem hg188_39 : pi_fetch mc_188 39 = some (.iaload, 1) := rfl
theorem hg188_40 : pi_fetch mc_188 40 = some (.iadd, 1) := rfl
theorem hg188_41 : pi_fetch mc_188 41 = some (.invokevirtual 210, 3) := rfl
theorem hg188_44 : pi_fetch mc_188 44 = some (.ifCond .ne 5, 3) := rfl
theorem hg188_47 : pi_fetch mc_188 47 = some (.iconst 0, 1) := rfl
theorem hg188_48 : pi_fetch mc_188 48 = some (.ireturn, 1) := rfl
theorem hg188_49 : pi_fetch mc_188 49 = some (.aload_n 0, 1) := rfl
theorem hg188_50 : pi_fetch mc_188 50 = some (.getfield 37, 3) := rfl
theorem hg188_53 : pi_fetch mc_188 53 = some (.iconst 0, 1) := rfl
theorem hg188_54 : pi_fetch mc_188 54 = some (.dup2, 1) := rfl
theorem hg188_55 : pi_fetch mc_188 55 = some (.iaload, 1) := rfl
theorem hg188_56 : pi_fetch mc_188 56 = some (.iconst 1, 1) := rfl
theorem hg188_57 : pi_fetch mc_188 57 = some (.iadd, 1) := rfl
theorem hg188_58 : pi_fetch mc_188 58 = some (.iastore, 1) := rfl
theorem hg188_59 : pi_fetch mc_188 59 = some (.iconst 1, 1) := rfl
theorem hg188_60 : pi_fetch mc_188 60 = some (.ireturn, 1) := rfl
theorem hg188_61 : pi_fetch mc_188 61 = some (.aload_n 0, 1) := rfl
theorem hg188_62 : pi_fetch mc_188 62 = some (.ldc2_w 86, 3) := rfl
theorem hg188_65 : pi_fetch mc_188 65 = some (.invokevirtual 206, 3) := rfl
theorem hg188_68 : pi_fetch mc_188 68 = some (.ifCond .eq 8, 3) := rfl
theorem hg188_71 : pi_fetch mc_188 71 = some (.aload_n 0, 1) := rfl
theorem hg188_72 : pi_fetch mc_188 72 = some (.invokevirtual 213, 3) := rfl
theorem hg188_75 : pi_fetch mc_188 75 = some (.ireturn, 1) := rfl
theorem hg188_76 : pi_fetch mc_188 76 = some (.aload_n 0, 1) := rfl
theorem hg188_77 : pi_fetch mc_188 77 = some (.ldc2_w 88, 3) := rfl
theorem hg188_80 : pi_fetch mc_188 80 = some (.invokevirtual 206, 3) := rfl
theorem hg188_83 : pi_fetch mc_188 83 = some (.ifCond .eq 53, 3) := rfl
theorem hg188_86 : pi_fetch mc_188 86 = some (.aload_n 0, 1) := rfl
theorem hg188_87 : pi_fetch mc_188 87 = some (.getfield 37, 3) := rfl
theorem hg188_90 : pi_fetch mc_188 90 = some (.iconst 2, 1) := rfl
theorem hg188_91 : pi_fetch mc_188 91 = some (.iaload, 1) := rfl
theorem hg188_92 : pi_fetch mc_188 92 = some (.iconst 5, 1) := rfl
theorem hg188_93 : pi_fetch mc_188 93 = some (.if_icmp .ne 9, 3) := rfl
theorem hg188_96 : pi_fetch mc_188 96 = some (.aload_n 0, 1) := rfl
theorem hg188_97 : pi_fetch mc_188 97 = some (.iconst 4, 1) := rfl
theorem hg188_98 : pi_fetch mc_188 98 = some (.invokevirtual 178, 3) := rfl
theorem hg188_101 : pi_fetch mc_188 101 = some (.ireturn, 1) := rfl
theorem hg188_102 : pi_fetch mc_188 102 = some (.aload_n 0, 1) := rfl
theorem hg188_103 : pi_fetch mc_188 103 = some (.invokevirtual 181, 3) := rfl
theorem hg188_106 : pi_fetch mc_188 106 = some (.aload_n 0, 1) := rfl
theorem hg188_107 : pi_fetch mc_188 107 = some (.bipush 37, 2) := rfl
theorem hg188_109 : pi_fetch mc_188 109 = some (.aload_n 0, 1) := rfl
theorem hg188_110 : pi_fetch mc_188 110 = some (.getfield 37, 3) := rfl
theorem hg188_113 : pi_fetch mc_188 113 = some (.iconst 2, 1) := rfl
theorem hg188_114 : pi_fetch mc_188 114 = some (.iaload, 1) := rfl
theorem hg188_115 : pi_fetch mc_188 115 = some (.iadd, 1) := rfl
theorem hg188_116 : pi_fetch mc_188 116 = some (.invokevirtual 210, 3) := rfl
theorem hg188_119 : pi_fetch mc_188 119 = some (.ifCond .ne 5, 3) := rfl
theorem hg188_122 : pi_fetch mc_188 122 = some (.iconst 0, 1) := rfl
theorem hg188_123 : pi_fetch mc_188 123 = some (.ireturn, 1) := rfl
theorem hg188_124 : pi_fetch mc_188 124 = some (.aload_n 0, 1) := rfl
theorem hg188_125 : pi_fetch mc_188 125 = some (.getfield 37, 3) := rfl
theorem hg188_128 : pi_fetch mc_188 128 = some (.iconst 2, 1) := rfl
theorem hg188_129 : pi_fetch mc_188 129 = some (.dup2, 1) := rfl
theorem hg188_130 : pi_fetch mc_188 130 = some (.iaload, 1) := rfl
theorem hg188_131 : pi_fetch mc_188 131 = some (.iconst 1, 1) := rfl
theorem hg188_132 : pi_fetch mc_188 132 = some (.iadd, 1) := rfl
theorem hg188_133 : pi_fetch mc_188 133 = some (.iastore, 1) := rfl
theorem hg188_134 : pi_fetch mc_188 134 = some (.iconst 1, 1) := rfl
theorem hg188_135 : pi_fetch mc_188 135 = some (.ireturn, 1) := rfl
theorem hg188_136 : pi_fetch mc_188 136 = some (.aload_n 0, 1) := rfl
theorem hg188_137 : pi_fetch mc_188 137 = some (.ldc2_w 90, 3) := rfl
theorem hg188_140 : pi_fetch mc_188 140 = some (.invokevirtual 206, 3) := rfl
theorem hg188_143 : pi_fetch mc_188 143 = some (.ifCond .ne 13, 3) := rfl
theorem hg188_146 : pi_fetch mc_188 146 = some (.aload_n 0, 1) := rfl
theorem hg188_147 : pi_fetch mc_188 147 = some (.ldc2_w 92, 3) := rfl
theorem hg188_150 : pi_fetch mc_188 150 = some (.invokevirtual 206, 3) := rfl
theorem hg188_153 : pi_fetch mc_188 153 = some (.ifCond .eq 15, 3) := rfl
theorem hg188_156 : pi_fetch mc_188 156 = some (.aload_n 0, 1) := rfl
theorem hg188_157 : pi_fetch mc_188 157 = some (.aload_n 0, 1) := rfl
theorem hg188_158 : pi_fetch mc_188 158 = some (.ldc2_w 92, 3) := rfl
theorem hg188_161 : pi_fetch mc_188 161 = some (.invokevirtual 206, 3) := rfl
theorem hg188_164 : pi_fetch mc_188 164 = some (.invokevirtual 216, 3) := rfl
theorem hg188_167 : pi_fetch mc_188 167 = some (.ireturn, 1) := rfl
theorem hg188_168 : pi_fetch mc_188 168 = some (.aload_n 0, 1) := rfl
theorem hg188_169 : pi_fetch mc_188 169 = some (.ldc2_w 94, 3) := rfl
theorem hg188_172 : pi_fetch mc_188 172 = some (.invokevirtual 206, 3) := rfl
theorem hg188_175 : pi_fetch mc_188 175 = some (.ifCond .eq 95, 3) := rfl
theorem hg188_178 : pi_fetch mc_188 178 = some (.aload_n 0, 1) := rfl
theorem hg188_179 : pi_fetch mc_188 179 = some (.getfield 37, 3) := rfl
theorem hg188_182 : pi_fetch mc_188 182 = some (.iconst 4, 1) := rfl
theorem hg188_183 : pi_fetch mc_188 183 = some (.iaload, 1) := rfl
theorem hg188_184 : pi_fetch mc_188 184 = some (.istore_n 1, 1) := rfl
theorem hg188_185 : pi_fetch mc_188 185 = some (.iload_n 1, 1) := rfl
theorem hg188_186 : pi_fetch mc_188 186 = some (.bipush 6, 2) := rfl
theorem hg188_188 : pi_fetch mc_188 188 = some (.if_icmp .ne 9, 3) := rfl
theorem hg188_191 : pi_fetch mc_188 191 = some (.aload_n 0, 1) := rfl
theorem hg188_192 : pi_fetch mc_188 192 = some (.iconst 4, 1) := rfl
theorem hg188_193 : pi_fetch mc_188 193 = some (.invokevirtual 178, 3) := rfl
theorem hg188_196 : pi_fetch mc_188 196 = some (.ireturn, 1) := rfl
theorem hg188_197 : pi_fetch mc_188 197 = some (.aload_n 0, 1) := rfl
theorem hg188_198 : pi_fetch mc_188 198 = some (.invokevirtual 181, 3) := rfl
theorem hg188_201 : pi_fetch mc_188 201 = some (.aload_n 0, 1) := rfl
theorem hg188_202 : pi_fetch mc_188 202 = some (.bipush 48, 2) := rfl
theorem hg188_204 : pi_fetch mc_188 204 = some (.iload_n 1, 1) := rfl
theorem hg188_205 : pi_fetch mc_188 205 = some (.iadd, 1) := rfl
theorem hg188_206 : pi_fetch mc_188 206 = some (.invokevirtual 210, 3) := rfl
theorem hg188_209 : pi_fetch mc_188 209 = some (.ifCond .eq 18, 3) := rfl
theorem hg188_212 : pi_fetch mc_188 212 = some (.aload_n 0, 1) := rfl
theorem hg188_213 : pi_fetch mc_188 213 = some (.bipush 27, 2) := rfl
theorem hg188_215 : pi_fetch mc_188 215 = some (.aload_n 0, 1) := rfl
theorem hg188_216 : pi_fetch mc_188 216 = some (.getfield 37, 3) := rfl
theorem hg188_219 : pi_fetch mc_188 219 = some (.iconst 0, 1) := rfl
theorem hg188_220 : pi_fetch mc_188 220 = some (.iaload, 1) := rfl
theorem hg188_221 : pi_fetch mc_188 221 = some (.invokevirtual 220, 3) := rfl
theorem hg188_224 : pi_fetch mc_188 224 = some (.ifCond .ne 5, 3) := rfl
theorem hg188_227 : pi_fetch mc_188 227 = some (.iconst 0, 1) := rfl
theorem hg188_228 : pi_fetch mc_188 228 = some (.ireturn, 1) := rfl
theorem hg188_229 : pi_fetch mc_188 229 = some (.aload_n 0, 1) := rfl
theorem hg188_230 : pi_fetch mc_188 230 = some (.getfield 37, 3) := rfl
theorem hg188_233 : pi_fetch mc_188 233 = some (.bipush 33, 2) := rfl
theorem hg188_235 : pi_fetch mc_188 235 = some (.iload_n 1, 1) := rfl
theorem hg188_236 : pi_fetch mc_188 236 = some (.iadd, 1) := rfl
theorem hg188_237 : pi_fetch mc_188 237 = some (.aload_n 0, 1) := rfl
theorem hg188_238 : pi_fetch mc_188 238 = some (.getfield 188, 3) := rfl
theorem hg188_241 : pi_fetch mc_188 241 = some (.iastore, 1) := rfl
theorem hg188_242 : pi_fetch mc_188 242 = some (.aload_n 0, 1) := rfl
theorem hg188_243 : pi_fetch mc_188 243 = some (.bipush 39, 2) := rfl
theorem hg188_245 : pi_fetch mc_188 245 = some (.iload_n 1, 1) := rfl
theorem hg188_246 : pi_fetch mc_188 246 = some (.iadd, 1) := rfl
theorem hg188_247 : pi_fetch mc_188 247 = some (.iconst 0, 1) := rfl
theorem hg188_248 : pi_fetch mc_188 248 = some (.bipush 9, 2) := rfl
theorem hg188_250 : pi_fetch mc_188 250 = some (.invokevirtual 223, 3) := rfl
theorem hg188_253 : pi_fetch mc_188 253 = some (.ifCond .ne 5, 3) := rfl
theorem hg188_256 : pi_fetch mc_188 256 = some (.iconst 0, 1) := rfl
theorem hg188_257 : pi_fetch mc_188 257 = some (.ireturn, 1) := rfl
theorem hg188_258 : pi_fetch mc_188 258 = some (.aload_n 0, 1) := rfl
theorem hg188_259 : pi_fetch mc_188 259 = some (.getfield 37, 3) := rfl
theorem hg188_262 : pi_fetch mc_188 262 = some (.iconst 4, 1) := rfl
theorem hg188_263 : pi_fetch mc_188 263 = some (.dup2, 1) := rfl
theorem hg188_264 : pi_fetch mc_188 264 = some (.iaload, 1) := rfl
theorem hg188_265 : pi_fetch mc_188 265 = some (.iconst 1, 1) := rfl
theorem hg188_266 : pi_fetch mc_188 266 = some (.iadd, 1) := rfl
theorem hg188_267 : pi_fetch mc_188 267 = some (.iastore, 1) := rfl
theorem hg188_268 : pi_fetch mc_188 268 = some (.iconst 1, 1) := rfl
theorem hg188_269 : pi_fetch mc_188 269 = some (.ireturn, 1) := rfl
theorem hg188_270 : pi_fetch mc_188 270 = some (.aload_n 0, 1) := rfl
theorem hg188_271 : pi_fetch mc_188 271 = some (.ldc2_w 96, 3) := rfl
theorem hg188_274 : pi_fetch mc_188 274 = some (.invokevirtual 206, 3) := rfl
theorem hg188_277 : pi_fetch mc_188 277 = some (.ifCond .eq 8, 3) := rfl
theorem hg188_280 : pi_fetch mc_188 280 = some (.aload_n 0, 1) := rfl
theorem hg188_281 : pi_fetch mc_188 281 = some (.invokevirtual 226, 3) := rfl
theorem hg188_284 : pi_fetch mc_188 284 = some (.ireturn, 1) := rfl
theorem hg188_285 : pi_fetch mc_188 285 = some (.aload_n 0, 1) := rfl
theorem hg188_286 : pi_fetch mc_188 286 = some (.ldc2_w 98, 3) := rfl
theorem hg188_289 : pi_fetch mc_188 289 = some (.invokevirtual 206, 3) := rfl
theorem hg188_292 : pi_fetch mc_188 292 = some (.ifCond .eq 103, 3) := rfl
theorem hg188_295 : pi_fetch mc_188 295 = some (.aload_n 0, 1) := rfl
theorem hg188_296 : pi_fetch mc_188 296 = some (.invokevirtual 181, 3) := rfl
theorem hg188_299 : pi_fetch mc_188 299 = some (.aload_n 0, 1) := rfl
theorem hg188_300 : pi_fetch mc_188 300 = some (.bipush 48, 2) := rfl
theorem hg188_302 : pi_fetch mc_188 302 = some (.aload_n 0, 1) := rfl
theorem hg188_303 : pi_fetch mc_188 303 = some (.getfield 37, 3) := rfl
theorem hg188_306 : pi_fetch mc_188 306 = some (.iconst 4, 1) := rfl
theorem hg188_307 : pi_fetch mc_188 307 = some (.iaload, 1) := rfl
theorem hg188_308 : pi_fetch mc_188 308 = some (.invokevirtual 203, 3) := rfl
theorem hg188_311 : pi_fetch mc_188 311 = some (.ifCond .ne 5, 3) := rfl
theorem hg188_314 : pi_fetch mc_188 314 = some (.iconst 0, 1) := rfl
theorem hg188_315 : pi_fetch mc_188 315 = some (.ireturn, 1) := rfl
theorem hg188_316 : pi_fetch mc_188 316 = some (.aload_n 0, 1) := rfl
theorem hg188_317 : pi_fetch mc_188 317 = some (.getfield 188, 3) := rfl
theorem hg188_320 : pi_fetch mc_188 320 = some (.istore_n 1, 1) := rfl
theorem hg188_321 : pi_fetch mc_188 321 = some (.aload_n 0, 1) := rfl
theorem hg188_322 : pi_fetch mc_188 322 = some (.getfield 37, 3) := rfl
theorem hg188_325 : pi_fetch mc_188 325 = some (.bipush 99, 2) := rfl
theorem hg188_327 : pi_fetch mc_188 327 = some (.iload_n 1, 1) := rfl
theorem hg188_328 : pi_fetch mc_188 328 = some (.iadd, 1) := rfl
theorem hg188_329 : pi_fetch mc_188 329 = some (.iaload, 1) := rfl
theorem hg188_330 : pi_fetch mc_188 330 = some (.ifCond .le 9, 3) := rfl
theorem hg188_333 : pi_fetch mc_188 333 = some (.aload_n 0, 1) := rfl
theorem hg188_334 : pi_fetch mc_188 334 = some (.iconst 3, 1) := rfl
theorem hg188_335 : pi_fetch mc_188 335 = some (.invokevirtual 178, 3) := rfl
theorem hg188_338 : pi_fetch mc_188 338 = some (.ireturn, 1) := rfl
theorem hg188_339 : pi_fetch mc_188 339 = some (.aload_n 0, 1) := rfl
theorem hg188_340 : pi_fetch mc_188 340 = some (.invokevirtual 181, 3) := rfl
theorem hg188_343 : pi_fetch mc_188 343 = some (.aload_n 0, 1) := rfl
theorem hg188_344 : pi_fetch mc_188 344 = some (.bipush 48, 2) := rfl
theorem hg188_346 : pi_fetch mc_188 346 = some (.aload_n 0, 1) := rfl
theorem hg188_347 : pi_fetch mc_188 347 = some (.getfield 37, 3) := rfl
theorem hg188_350 : pi_fetch mc_188 350 = some (.iconst 4, 1) := rfl
theorem hg188_351 : pi_fetch mc_188 351 = some (.iaload, 1) := rfl
theorem hg188_352 : pi_fetch mc_188 352 = some (.invokevirtual 203, 3) := rfl
theorem hg188_355 : pi_fetch mc_188 355 = some (.ifCond .ne 5, 3) := rfl
theorem hg188_358 : pi_fetch mc_188 358 = some (.iconst 0, 1) := rfl
theorem hg188_359 : pi_fetch mc_188 359 = some (.ireturn, 1) := rfl
theorem hg188_360 : pi_fetch mc_188 360 = some (.aload_n 0, 1) := rfl
theorem hg188_361 : pi_fetch mc_188 361 = some (.getfield 188, 3) := rfl
theorem hg188_364 : pi_fetch mc_188 364 = some (.iload_n 1, 1) := rfl
theorem hg188_365 : pi_fetch mc_188 365 = some (.if_icmp .ne 9, 3) := rfl
theorem hg188_368 : pi_fetch mc_188 368 = some (.aload_n 0, 1) := rfl
theorem hg188_369 : pi_fetch mc_188 369 = some (.iconst 3, 1) := rfl
theorem hg188_370 : pi_fetch mc_188 370 = some (.invokevirtual 178, 3) := rfl
theorem hg188_373 : pi_fetch mc_188 373 = some (.ireturn, 1) := rfl
theorem hg188_374 : pi_fetch mc_188 374 = some (.aload_n 0, 1) := rfl
theorem hg188_375 : pi_fetch mc_188 375 = some (.getfield 37, 3) := rfl
theorem hg188_378 : pi_fetch mc_188 378 = some (.bipush 99, 2) := rfl
theorem hg188_380 : pi_fetch mc_188 380 = some (.iload_n 1, 1) := rfl
theorem hg188_381 : pi_fetch mc_188 381 = some (.iadd, 1) := rfl
theorem hg188_382 : pi_fetch mc_188 382 = some (.aload_n 0, 1) := rfl
theorem hg188_383 : pi_fetch mc_188 383 = some (.getfield 188, 3) := rfl
theorem hg188_386 : pi_fetch mc_188 386 = some (.iconst 1, 1) := rfl
theorem hg188_387 : pi_fetch mc_188 387 = some (.iadd, 1) := rfl
theorem hg188_388 : pi_fetch mc_188 388 = some (.iastore, 1) := rfl
theorem hg188_389 : pi_fetch mc_188 389 = some (.aload_n 0, 1) := rfl
theorem hg188_390 : pi_fetch mc_188 390 = some (.invokevirtual 181, 3) := rfl
theorem hg188_393 : pi_fetch mc_188 393 = some (.iconst 1, 1) := rfl
theorem hg188_394 : pi_fetch mc_188 394 = some (.ireturn, 1) := rfl
theorem hg188_395 : pi_fetch mc_188 395 = some (.aload_n 0, 1) := rfl
theorem hg188_396 : pi_fetch mc_188 396 = some (.ldc2_w 100, 3) := rfl
theorem hg188_399 : pi_fetch mc_188 399 = some (.invokevirtual 206, 3) := rfl
theorem hg188_402 : pi_fetch mc_188 402 = some (.ifCond .ne 9, 3) := rfl
theorem hg188_405 : pi_fetch mc_188 405 = some (.aload_n 0, 1) := rfl
theorem hg188_406 : pi_fetch mc_188 406 = some (.iconst 1, 1) := rfl
theorem hg188_407 : pi_fetch mc_188 407 = some (.invokevirtual 178, 3) := rfl
theorem hg188_410 : pi_fetch mc_188 410 = some (.ireturn, 1) := rfl
theorem hg188_411 : pi_fetch mc_188 411 = some (.aload_n 0, 1) := rfl
theorem hg188_412 : pi_fetch mc_188 412 = some (.invokevirtual 181, 3) := rfl
theorem hg188_415 : pi_fetch mc_188 415 = some (.aload_n 0, 1) := rfl
theorem hg188_416 : pi_fetch mc_188 416 = some (.bipush 42, 2) := rfl
theorem hg188_418 : pi_fetch mc_188 418 = some (.aload_n 0, 1) := rfl
theorem hg188_419 : pi_fetch mc_188 419 = some (.getfield 37, 3) := rfl
theorem hg188_422 : pi_fetch mc_188 422 = some (.iconst 3, 1) := rfl
theorem hg188_423 : pi_fetch mc_188 423 = some (.iaload, 1) := rfl
theorem hg188_424 : pi_fetch mc_188 424 = some (.invokevirtual 220, 3) := rfl
theorem hg188_427 : pi_fetch mc_188 427 = some (.ifCond .ne 5, 3) := rfl
theorem hg188_430 : pi_fetch mc_188 430 = some (.iconst 0, 1) := rfl
theorem hg188_431 : pi_fetch mc_188 431 = some (.ireturn, 1) := rfl
theorem hg188_432 : pi_fetch mc_188 432 = some (.aload_n 0, 1) := rfl
theorem hg188_433 : pi_fetch mc_188 433 = some (.getfield 188, 3) := rfl
theorem hg188_436 : pi_fetch mc_188 436 = some (.istore_n 1, 1) := rfl
theorem hg188_437 : pi_fetch mc_188 437 = some (.aload_n 0, 1) := rfl
theorem hg188_438 : pi_fetch mc_188 438 = some (.bipush 27, 2) := rfl
theorem hg188_440 : pi_fetch mc_188 440 = some (.aload_n 0, 1) := rfl
theorem hg188_441 : pi_fetch mc_188 441 = some (.getfield 37, 3) := rfl
theorem hg188_444 : pi_fetch mc_188 444 = some (.iconst 0, 1) := rfl
theorem hg188_445 : pi_fetch mc_188 445 = some (.iaload, 1) := rfl
theorem hg188_446 : pi_fetch mc_188 446 = some (.invokevirtual 203, 3) := rfl
theorem hg188_449 : pi_fetch mc_188 449 = some (.ifCond .ne 5, 3) := rfl
theorem hg188_452 : pi_fetch mc_188 452 = some (.iconst 0, 1) := rfl
theorem hg188_453 : pi_fetch mc_188 453 = some (.ireturn, 1) := rfl
theorem hg188_454 : pi_fetch mc_188 454 = some (.aload_n 0, 1) := rfl
theorem hg188_455 : pi_fetch mc_188 455 = some (.getfield 37, 3) := rfl
theorem hg188_458 : pi_fetch mc_188 458 = some (.bipush 105, 2) := rfl
theorem hg188_460 : pi_fetch mc_188 460 = some (.aload_n 0, 1) := rfl
theorem hg188_461 : pi_fetch mc_188 461 = some (.getfield 188, 3) := rfl
theorem hg188_464 : pi_fetch mc_188 464 = some (.iadd, 1) := rfl
theorem hg188_465 : pi_fetch mc_188 465 = some (.iaload, 1) := rfl
theorem hg188_466 : pi_fetch mc_188 466 = some (.iload_n 1, 1) := rfl
theorem hg188_467 : pi_fetch mc_188 467 = some (.invokestatic 229, 3) := rfl
theorem hg188_470 : pi_fetch mc_188 470 = some (.ifCond .eq 9, 3) := rfl
theorem hg188_473 : pi_fetch mc_188 473 = some (.aload_n 0, 1) := rfl
theorem hg188_474 : pi_fetch mc_188 474 = some (.iconst 3, 1) := rfl
theorem hg188_475 : pi_fetch mc_188 475 = some (.invokevirtual 178, 3) := rfl
theorem hg188_478 : pi_fetch mc_188 478 = some (.ireturn, 1) := rfl
theorem hg188_479 : pi_fetch mc_188 479 = some (.aload_n 0, 1) := rfl
theorem hg188_480 : pi_fetch mc_188 480 = some (.getfield 37, 3) := rfl
theorem hg188_483 : pi_fetch mc_188 483 = some (.bipush 105, 2) := rfl
theorem hg188_485 : pi_fetch mc_188 485 = some (.aload_n 0, 1) := rfl
theorem hg188_486 : pi_fetch mc_188 486 = some (.getfield 188, 3) := rfl
theorem hg188_489 : pi_fetch mc_188 489 = some (.iadd, 1) := rfl
theorem hg188_490 : pi_fetch mc_188 490 = some (.dup2, 1) := rfl
theorem hg188_491 : pi_fetch mc_188 491 = some (.iaload, 1) := rfl
theorem hg188_492 : pi_fetch mc_188 492 = some (.iconst 1, 1) := rfl
theorem hg188_493 : pi_fetch mc_188 493 = some (.iload_n 1, 1) := rfl
theorem hg188_494 : pi_fetch mc_188 494 = some (.ishl, 1) := rfl
theorem hg188_495 : pi_fetch mc_188 495 = some (.ior, 1) := rfl
theorem hg188_496 : pi_fetch mc_188 496 = some (.iastore, 1) := rfl
theorem hg188_497 : pi_fetch mc_188 497 = some (.aload_n 0, 1) := rfl
theorem hg188_498 : pi_fetch mc_188 498 = some (.invokevirtual 181, 3) := rfl
theorem hg188_501 : pi_fetch mc_188 501 = some (.iconst 1, 1) := rfl
theorem hg188_502 : pi_fetch mc_188 502 = some (.ireturn, 1) := rfl
theorem kwx_0 : (482854658917 : Int64) = Int64.ofNat (tq_c256 (tq_kw.getD 0 [])) := by decide +kernel
theorem kwx_1 : (1919902052 : Int64) = Int64.ofNat (tq_c256 (tq_kw.getD 1 [])) := by decide +kernel
theorem kwx_2 : (1684366692 : Int64) = Int64.ofNat (tq_c256 (tq_kw.getD 2 [])) := by decide +kernel
theorem kwx_3 : (7102839 : Int64) = Int64.ofNat (tq_c256 (tq_kw.getD 3 [])) := by decide +kernel
theorem kwx_4 : (125780002955628 : Int64) = Int64.ofNat (tq_c256 (tq_kw.getD 4 [])) := by decide +kernel
theorem kwx_5 : (7168366 : Int64) = Int64.ofNat (tq_c256 (tq_kw.getD 5 [])) := by decide +kernel
theorem kwx_6 : (491496238692 : Int64) = Int64.ofNat (tq_c256 (tq_kw.getD 6 [])) := by decide +kernel
theorem kwx_7 : (427020350059 : Int64) = Int64.ofNat (tq_c256 (tq_kw.getD 7 [])) := by decide +kernel
theorem kwx_8 : (1886352244 : Int64) = Int64.ofNat (tq_c256 (tq_kw.getD 8 [])) := by decide +kernel
theorem hv_37 : ((Int8.ofInt 37).toInt32) = Int32.ofNat 37 := by decide
theorem ml_line {d B M : Nat} {tp : Nat → Nat} {w : pi_W} {σ : ls_S} (hO : MO tp B M w σ) (hJ : ls_J σ) : hq_F (d + 5) sm188 (ml_P tp B M (ls_line tp B M σ) w) (0, lv_args 0 [.ref 61], [], w) := by
  obtain ⟨t, A, nr, NT⟩ := σ
  obtain ⟨h, hL⟩ := hO
  obtain ⟨⟨ho, ⟨m0, m2, m3, m4⟩, mr, i3, i7⟩, j8⟩ := id hJ
  dsimp only at *
  have hL : MLx w A nr NT NT := hL
  have g0 : pi_get (lv_args 0 [.ref 61]) 0 = some (.ref 61) := rfl
  have kc0 : (((Int8.ofInt 10).toInt32)).toInt = 10 := by decide
  have kc1 : (((Int8.ofInt 105).toInt32)).toInt = 105 := by decide
  have kc2 : (((Int8.ofInt 27).toInt32)).toInt = 27 := by decide
  have kc3 : (((Int8.ofInt 33).toInt32)).toInt = 33 := by decide
  have kc4 : (((Int8.ofInt 37).toInt32)).toInt = 37 := by decide
  have kc5 : (((Int8.ofInt 39).toInt32)).toInt = 39 := by decide
  have kc6 : (((Int8.ofInt 42).toInt32)).toInt = 42 := by decide
  have kc7 : (((Int8.ofInt 48).toInt32)).toInt = 48 := by decide
  have kc8 : (((Int8.ofInt 6).toInt32)).toInt = 6 := by decide
  have kc9 : (((Int8.ofInt 9).toInt32)).toInt = 9 := by decide
  have kc10 : (((Int8.ofInt 99).toInt32)).toInt = 99 := by decide
  have kc11 : ((0 : Int32)).toInt = 0 := by decide
  have kc12 : ((1 : Int32)).toInt = 1 := by decide
  have kc13 : ((Int32.ofInt 0)).toInt = 0 := by decide
  have kc14 : ((Int32.ofInt 1)).toInt = 1 := by decide
  have kc15 : ((Int32.ofInt 2)).toInt = 2 := by decide
  have kc16 : ((Int32.ofInt 3)).toInt = 3 := by decide
  have kc17 : ((Int32.ofInt 4)).toInt = 4 := by decide
  have kc18 : ((Int32.ofInt 5)).toInt = 5 := by decide
  have kz := sy_z0
  refine hq_F.st (s' := (1, _, _, _)) hg188_0 rfl rfl rfl (hs_al g0) ?_
  refine hq_F.st (s' := (4, _, _, _)) hg188_1 rfl rfl rfl rfl ?_
  refine hq_F.call hg188_4 rfl rfl si_11_206 (by decide) (by decide) sz_178 (sy_argsV h.1 sh_61 rfl rfl rfl (Nat.le_of_ble_eq_true rfl) rfl (Nat.le_of_ble_eq_true rfl) rfl (by decide)) (ml_isW (k := 0) h (by decide) kwx_0) (fun _ _ q => by rw [q.1]) ?_
  rintro r4 w ⟨rfl, rfl⟩
  try dsimp only
  by_cases hk0 : ls_k t = ((0 : Nat) : Int)
  · rw [decide_eq_true hk0, show tq_b true = (1 : Int32) from rfl]
    have h2t : 2 ≤ t.1 := by rw [ls_k2 (t := t) (by omega)]; omega
    refine hq_F.st (s' := (10, _, _, _)) hg188_7 rfl rfl rfl (hs_ifn (t := 61) (ci_eqn (by omega)) rfl) ?_
    refine hq_F.st (s' := (11, _, _, _)) hg188_10 rfl rfl rfl (hs_al g0) ?_
    refine hq_F.st (s' := (14, _, _, _)) hg188_11 rfl rfl rfl (hq_gf h.1 sh_61 sk_11_37 (hq_ref h.1 sh_61 (b := 64) rfl)) ?_
    refine hq_F.st (s' := (15, _, _, _)) hg188_14 rfl rfl rfl rfl ?_
    refine hq_F.st (s' := (16, _, _, _)) hg188_15 rfl rfl rfl (sy_iav h.1 sh_64 (n := 0) (by decide) (by decide)) ?_
    refine hq_F.st (s' := (18, _, _, _)) hg188_16 rfl rfl rfl rfl ?_
    have hc0 := hL.2.1 0 (by omega)
    by_cases b18 : ¬ ((gv w 64 (0))).toInt = 10
    · skip
      refine hq_F.st (s' := (27, _, _, _)) hg188_18 rfl rfl rfl (hs_ic (ci_ne (by omega)) rfl) ?_
      have hlt : nt_c 0 NT < nt_mx 0 := by show nt_c 0 NT < 10; omega
      refine hq_F.st (s' := (28, _, _, _)) hg188_27 rfl rfl rfl (hs_al g0) ?_
      refine hq_F.call hg188_28 rfl rfl si_11_181 (by decide) (by decide) sz_176 (sy_argsV h.1 sh_61 rfl rfl rfl (Nat.le_of_ble_eq_true rfl) rfl (Nat.le_of_ble_eq_true rfl) rfl (by decide)) (mt_adv (d := d + 3) h h2t) (fun _ _ q => by rw [q.2.1.1.1, h.1.1]) ?_
      rintro r28 w1 ⟨rfl, h1, F1⟩
      try dsimp only
      have hL1 : MLx w1 A nr NT NT := hL.fr F1 (by decide) (by decide)
      refine hq_F.st (s' := (32, _, _, _)) hg188_31 rfl rfl rfl (hs_al g0) ?_
      refine hq_F.st (s' := (34, _, _, _)) hg188_32 rfl rfl rfl rfl ?_
      refine hq_F.st (s' := (35, _, _, _)) hg188_34 rfl rfl rfl (hs_al g0) ?_
      refine hq_F.st (s' := (38, _, _, _)) hg188_35 rfl rfl rfl (hq_gf h1.1 sh_61 sk_11_37 (hq_ref h1.1 sh_61 (b := 64) rfl)) ?_
      refine hq_F.st (s' := (39, _, _, _)) hg188_38 rfl rfl rfl rfl ?_
      refine hq_F.st (s' := (40, _, _, _)) hg188_39 rfl rfl rfl (sy_iav h1.1 sh_64 (n := 0) (by decide) (by decide)) ?_
      rw [show gv w1 64 (0) = Int32.ofNat (nt_c 0 NT) from (hn_e (hL1.2.1 0 (by omega)) (by omega))]
      refine hq_F.st (s' := (41, _, _, _)) hg188_40 rfl rfl rfl rfl ?_
      refine hq_F.call hg188_41 rfl rfl si_11_210 (by decide) (by decide) sz_185 (sy_argsV h1.1 sh_61 rfl rfl rfl (Nat.le_of_ble_eq_true rfl) rfl (Nat.le_of_ble_eq_true rfl) rfl (by decide)) (mn_fr (d := d + 2) (b := 27 + nt_c 0 NT) h1 hL1.1 ho hL1.2.1 ⟨m0, m2, m3, m4⟩ (hn_k hv_27) (by omega)) (fun r w' q => by rcases q with ⟨_, _, _, q, _⟩ | ⟨_, q, _⟩; rw [q.1.1, h1.1.1]; rw [q.1.1, h1.1.1]) ?_
      rintro r41 w2 q
      try dsimp only
      rcases q with ⟨rfl, n2, f2, h2, F2, g2⟩ | ⟨rfl, h2, F2, q⟩
      · have hL2 := hL1.fresh (s := 0) ho ⟨m0, m2, m3, m4⟩ (by omega) hlt (by show 27 + nt_c 0 NT = 27 + 0 + nt_c 0 NT; omega) F2 g2
        refine hq_F.st (s' := (49, _, _, _)) hg188_44 rfl rfl rfl (hs_if (ci_ne (by omega)) rfl) ?_
        refine hq_F.st (s' := (50, _, _, _)) hg188_49 rfl rfl rfl (hs_al g0) ?_
        refine hq_F.st (s' := (53, _, _, _)) hg188_50 rfl rfl rfl (hq_gf h2.1 sh_61 sk_11_37 (hq_ref h2.1 sh_61 (b := 64) rfl)) ?_
        refine hq_F.st (s' := (54, _, _, _)) hg188_53 rfl rfl rfl rfl ?_
        refine hq_F.st (s' := (55, _, _, _)) hg188_54 rfl rfl rfl rfl ?_
        refine hq_F.st (s' := (56, _, _, _)) hg188_55 rfl rfl rfl (sy_iav h2.1 sh_64 (n := 0) (by decide) (by decide)) ?_
        rw [show gv w2 64 (0) = Int32.ofNat (nt_c 0 NT) from (hn_e (hL2.2.1 0 (by omega)) (by omega))]
        refine hq_F.st (s' := (57, _, _, _)) hg188_56 rfl rfl rfl rfl ?_
        refine hq_F.st (s' := (58, _, _, _)) hg188_57 rfl rfl rfl rfl ?_
        rw [hn_s]
        have tl1 : (Int32.ofNat (nt_c 0 NT + 1)).toInt = ((nt_c 0 NT + 1 : Nat) : Int) := hn_t (by omega)
        refine sy_isv hg188_58 h2.1 sh_64 (n := 0) (by decide) (by decide) (sy_sr sn_0 (by omega) (by omega)) (fun w3 hC3 hw3 => ?_)
        refine hq_F.st (s' := (60, _, _, _)) hg188_59 rfl rfl rfl rfl ?_
        refine hq_F.en hg188_60 rfl rfl ?_
        exact ⟨hC3, (F1.cov (by decide)).tr ((ml_f66 F2 (by omega)).tr (ml_w64 hw3 (by omega))), Or.inl ⟨rfl, ((tq_nx tp B M (tq_nx tp B M t)), A, nr, NT ++ [(0, nt_c 0 NT, (tq_nx tp B M t).2.2.2.1)]), by rw [ls_line_0 hk0]; show ls_b (ls_more tp B M (nt_c 0 NT) 10 (t, A, nr, NT)) _ = _; rw [show ls_more tp B M (nt_c 0 NT) 10 (t, A, nr, NT) = .inr ((tq_nx tp B M t), A, nr, NT) from if_pos (by omega)]; rw [ls_br]; exact ls_new_in n2 f2, h2.fr hC3 (wpF hw3) rfl, hL2.cnt (by omega) hw3 tl1⟩⟩
      · skip
        refine hq_F.st (s' := (47, _, _, _)) hg188_44 rfl rfl rfl (hs_ifn (t := 49) (ci_nen (by omega)) rfl) ?_
        refine hq_F.st (s' := (48, _, _, _)) hg188_47 rfl rfl rfl rfl ?_
        refine hq_F.en hg188_48 rfl rfl ?_
        rcases q with ⟨q1, q2⟩ | ⟨q1, q2, q3⟩
        · exact ⟨h2.1, (F1.cov (by decide)).tr (F2.cov (by decide)), Or.inr ⟨rfl, 1, (tq_nx tp B M t).2.1, by rw [ls_line_0 hk0]; show ls_b (ls_more tp B M (nt_c 0 NT) 10 (t, A, nr, NT)) _ = _; rw [show ls_more tp B M (nt_c 0 NT) 10 (t, A, nr, NT) = .inr ((tq_nx tp B M t), A, nr, NT) from if_pos (by omega)]; rw [ls_br]; exact ls_new_1 q1, q2⟩⟩
        · exact ⟨h2.1, (F1.cov (by decide)).tr (F2.cov (by decide)), Or.inr ⟨rfl, 3, (tq_nx tp B M t).2.1, by rw [ls_line_0 hk0]; show ls_b (ls_more tp B M (nt_c 0 NT) 10 (t, A, nr, NT)) _ = _; rw [show ls_more tp B M (nt_c 0 NT) 10 (t, A, nr, NT) = .inr ((tq_nx tp B M t), A, nr, NT) from if_pos (by omega)]; rw [ls_br]; exact ls_new_3 q1 q2, q3⟩⟩
    · skip
      refine hq_F.st (s' := (21, _, _, _)) hg188_18 rfl rfl rfl (hs_icn (t := 27) (ci_nen (by omega)) rfl) ?_
      refine hq_F.st (s' := (22, _, _, _)) hg188_21 rfl rfl rfl (hs_al g0) ?_
      refine hq_F.st (s' := (23, _, _, _)) hg188_22 rfl rfl rfl rfl ?_
      refine hq_F.call hg188_23 rfl rfl si_11_178 (by decide) (by decide) sz_177 (sy_argsV h.1 sh_61 rfl rfl rfl (Nat.le_of_ble_eq_true rfl) rfl (Nat.le_of_ble_eq_true rfl) rfl (by decide)) (mt_bad h ((Int32.ofInt 4))) (fun _ _ q => by rw [q.2.1.1.1, h.1.1]) ?_
      rintro r23 w9 ⟨rfl, k1, k2, k3, k4⟩
      try dsimp only
      refine hq_F.en hg188_26 rfl rfl ?_
      exact ⟨k1.1, k2.cov (by decide), Or.inr ⟨rfl, 4, t.2.1, by rw [ls_line_0 hk0]; show ls_b (ls_more tp B M (nt_c 0 NT) 10 (t, A, nr, NT)) _ = _; rw [show ls_more tp B M (nt_c 0 NT) 10 (t, A, nr, NT) = .inl (4, t.2.1) from if_neg (by omega)]; rfl, by rw [k3]; decide, k4⟩⟩
  · rw [decide_eq_false hk0, show tq_b false = (0 : Int32) from rfl]
    refine hq_F.st (s' := (61, _, _, _)) hg188_7 rfl rfl rfl (hs_if (ci_eq (by omega)) rfl) ?_
    refine hq_F.st (s' := (62, _, _, _)) hg188_61 rfl rfl rfl (hs_al g0) ?_
    refine hq_F.st (s' := (65, _, _, _)) hg188_62 rfl rfl rfl rfl ?_
    refine hq_F.call hg188_65 rfl rfl si_11_206 (by decide) (by decide) sz_178 (sy_argsV h.1 sh_61 rfl rfl rfl (Nat.le_of_ble_eq_true rfl) rfl (Nat.le_of_ble_eq_true rfl) rfl (by decide)) (ml_isW (k := 1) h (by decide) kwx_1) (fun _ _ q => by rw [q.1]) ?_
    rintro r65 w ⟨rfl, rfl⟩
    try dsimp only
    by_cases hk1 : ls_k t = ((1 : Nat) : Int)
    · rw [decide_eq_true hk1, show tq_b true = (1 : Int32) from rfl]
      have h2t : 2 ≤ t.1 := by rw [ls_k2 (t := t) (by omega)]; omega
      refine hq_F.st (s' := (71, _, _, _)) hg188_68 rfl rfl rfl (hs_ifn (t := 76) (ci_eqn (by omega)) rfl) ?_
      refine hq_F.st (s' := (72, _, _, _)) hg188_71 rfl rfl rfl (hs_al g0) ?_
      refine hq_F.call hg188_72 rfl rfl si_11_213 (by decide) (by decide) sz_189 (sy_argsV h.1 sh_61 rfl rfl rfl (Nat.le_of_ble_eq_true rfl) rfl (Nat.le_of_ble_eq_true rfl) rfl (by decide)) (ml_road (d := d + 1) (σ := (t, A, nr, NT)) ⟨h, hL⟩ hJ h2t) (fun _ _ q => by rw [q.1.1, h.1.1]) ?_
      rintro r72 w1 ⟨hC1, F1, q⟩
      try dsimp only
      rcases q with ⟨rfl, σ1, e1, O1⟩ | ⟨rfl, k, p, e1, q1⟩
      · skip
        refine hq_F.en hg188_75 rfl rfl ?_
        exact ⟨hC1, F1, Or.inl ⟨rfl, σ1, by rw [ls_line_1 hk1]; exact e1, O1⟩⟩
      · skip
        refine hq_F.en hg188_75 rfl rfl ?_
        exact ⟨hC1, F1, Or.inr ⟨rfl, k, p, by rw [ls_line_1 hk1]; exact e1, q1⟩⟩
    · rw [decide_eq_false hk1, show tq_b false = (0 : Int32) from rfl]
      refine hq_F.st (s' := (76, _, _, _)) hg188_68 rfl rfl rfl (hs_if (ci_eq (by omega)) rfl) ?_
      refine hq_F.st (s' := (77, _, _, _)) hg188_76 rfl rfl rfl (hs_al g0) ?_
      refine hq_F.st (s' := (80, _, _, _)) hg188_77 rfl rfl rfl rfl ?_
      refine hq_F.call hg188_80 rfl rfl si_11_206 (by decide) (by decide) sz_178 (sy_argsV h.1 sh_61 rfl rfl rfl (Nat.le_of_ble_eq_true rfl) rfl (Nat.le_of_ble_eq_true rfl) rfl (by decide)) (ml_isW (k := 2) h (by decide) kwx_2) (fun _ _ q => by rw [q.1]) ?_
      rintro r80 w ⟨rfl, rfl⟩
      try dsimp only
      by_cases hk2 : ls_k t = ((2 : Nat) : Int)
      · rw [decide_eq_true hk2, show tq_b true = (1 : Int32) from rfl]
        have h2t : 2 ≤ t.1 := by rw [ls_k2 (t := t) (by omega)]; omega
        refine hq_F.st (s' := (86, _, _, _)) hg188_83 rfl rfl rfl (hs_ifn (t := 136) (ci_eqn (by omega)) rfl) ?_
        refine hq_F.st (s' := (87, _, _, _)) hg188_86 rfl rfl rfl (hs_al g0) ?_
        refine hq_F.st (s' := (90, _, _, _)) hg188_87 rfl rfl rfl (hq_gf h.1 sh_61 sk_11_37 (hq_ref h.1 sh_61 (b := 64) rfl)) ?_
        refine hq_F.st (s' := (91, _, _, _)) hg188_90 rfl rfl rfl rfl ?_
        refine hq_F.st (s' := (92, _, _, _)) hg188_91 rfl rfl rfl (sy_iav h.1 sh_64 (n := 2) (by decide) (by decide)) ?_
        refine hq_F.st (s' := (93, _, _, _)) hg188_92 rfl rfl rfl rfl ?_
        have hc2 := hL.2.1 2 (by omega)
        by_cases b93 : ¬ ((gv w 64 (2))).toInt = 5
        · skip
          refine hq_F.st (s' := (102, _, _, _)) hg188_93 rfl rfl rfl (hs_ic (ci_ne (by omega)) rfl) ?_
          have hlt : nt_c 2 NT < nt_mx 2 := by show nt_c 2 NT < 5; omega
          refine hq_F.st (s' := (103, _, _, _)) hg188_102 rfl rfl rfl (hs_al g0) ?_
          refine hq_F.call hg188_103 rfl rfl si_11_181 (by decide) (by decide) sz_176 (sy_argsV h.1 sh_61 rfl rfl rfl (Nat.le_of_ble_eq_true rfl) rfl (Nat.le_of_ble_eq_true rfl) rfl (by decide)) (mt_adv (d := d + 3) h h2t) (fun _ _ q => by rw [q.2.1.1.1, h.1.1]) ?_
          rintro r103 w1 ⟨rfl, h1, F1⟩
          try dsimp only
          have hL1 : MLx w1 A nr NT NT := hL.fr F1 (by decide) (by decide)
          refine hq_F.st (s' := (107, _, _, _)) hg188_106 rfl rfl rfl (hs_al g0) ?_
          refine hq_F.st (s' := (109, _, _, _)) hg188_107 rfl rfl rfl rfl ?_
          refine hq_F.st (s' := (110, _, _, _)) hg188_109 rfl rfl rfl (hs_al g0) ?_
          refine hq_F.st (s' := (113, _, _, _)) hg188_110 rfl rfl rfl (hq_gf h1.1 sh_61 sk_11_37 (hq_ref h1.1 sh_61 (b := 64) rfl)) ?_
          refine hq_F.st (s' := (114, _, _, _)) hg188_113 rfl rfl rfl rfl ?_
          refine hq_F.st (s' := (115, _, _, _)) hg188_114 rfl rfl rfl (sy_iav h1.1 sh_64 (n := 2) (by decide) (by decide)) ?_
          rw [show gv w1 64 (2) = Int32.ofNat (nt_c 2 NT) from (hn_e (hL1.2.1 2 (by omega)) (by omega))]
          refine hq_F.st (s' := (116, _, _, _)) hg188_115 rfl rfl rfl rfl ?_
          refine hq_F.call hg188_116 rfl rfl si_11_210 (by decide) (by decide) sz_185 (sy_argsV h1.1 sh_61 rfl rfl rfl (Nat.le_of_ble_eq_true rfl) rfl (Nat.le_of_ble_eq_true rfl) rfl (by decide)) (mn_fr (d := d + 2) (b := 37 + nt_c 2 NT) h1 hL1.1 ho hL1.2.1 ⟨m0, m2, m3, m4⟩ (hn_k hv_37) (by omega)) (fun r w' q => by rcases q with ⟨_, _, _, q, _⟩ | ⟨_, q, _⟩; rw [q.1.1, h1.1.1]; rw [q.1.1, h1.1.1]) ?_
          rintro r116 w2 q
          try dsimp only
          rcases q with ⟨rfl, n2, f2, h2, F2, g2⟩ | ⟨rfl, h2, F2, q⟩
          · have hL2 := hL1.fresh (s := 2) ho ⟨m0, m2, m3, m4⟩ (by omega) hlt (by show 37 + nt_c 2 NT = 27 + 10 + nt_c 2 NT; omega) F2 g2
            refine hq_F.st (s' := (124, _, _, _)) hg188_119 rfl rfl rfl (hs_if (ci_ne (by omega)) rfl) ?_
            refine hq_F.st (s' := (125, _, _, _)) hg188_124 rfl rfl rfl (hs_al g0) ?_
            refine hq_F.st (s' := (128, _, _, _)) hg188_125 rfl rfl rfl (hq_gf h2.1 sh_61 sk_11_37 (hq_ref h2.1 sh_61 (b := 64) rfl)) ?_
            refine hq_F.st (s' := (129, _, _, _)) hg188_128 rfl rfl rfl rfl ?_
            refine hq_F.st (s' := (130, _, _, _)) hg188_129 rfl rfl rfl rfl ?_
            refine hq_F.st (s' := (131, _, _, _)) hg188_130 rfl rfl rfl (sy_iav h2.1 sh_64 (n := 2) (by decide) (by decide)) ?_
            rw [show gv w2 64 (2) = Int32.ofNat (nt_c 2 NT) from (hn_e (hL2.2.1 2 (by omega)) (by omega))]
            refine hq_F.st (s' := (132, _, _, _)) hg188_131 rfl rfl rfl rfl ?_
            refine hq_F.st (s' := (133, _, _, _)) hg188_132 rfl rfl rfl rfl ?_
            rw [hn_s]
            have tl1 : (Int32.ofNat (nt_c 2 NT + 1)).toInt = ((nt_c 2 NT + 1 : Nat) : Int) := hn_t (by omega)
            refine sy_isv hg188_133 h2.1 sh_64 (n := 2) (by decide) (by decide) (sy_sr sn_2 (by omega) (by omega)) (fun w3 hC3 hw3 => ?_)
            refine hq_F.st (s' := (135, _, _, _)) hg188_134 rfl rfl rfl rfl ?_
            refine hq_F.en hg188_135 rfl rfl ?_
            exact ⟨hC3, (F1.cov (by decide)).tr ((ml_f66 F2 (by omega)).tr (ml_w64 hw3 (by omega))), Or.inl ⟨rfl, ((tq_nx tp B M (tq_nx tp B M t)), A, nr, NT ++ [(2, nt_c 2 NT, (tq_nx tp B M t).2.2.2.1)]), by rw [ls_line_2 hk2]; show ls_b (ls_more tp B M (nt_c 2 NT) 5 (t, A, nr, NT)) _ = _; rw [show ls_more tp B M (nt_c 2 NT) 5 (t, A, nr, NT) = .inr ((tq_nx tp B M t), A, nr, NT) from if_pos (by omega)]; rw [ls_br]; exact ls_new_in n2 f2, h2.fr hC3 (wpF hw3) rfl, hL2.cnt (by omega) hw3 tl1⟩⟩
          · skip
            refine hq_F.st (s' := (122, _, _, _)) hg188_119 rfl rfl rfl (hs_ifn (t := 124) (ci_nen (by omega)) rfl) ?_
            refine hq_F.st (s' := (123, _, _, _)) hg188_122 rfl rfl rfl rfl ?_
            refine hq_F.en hg188_123 rfl rfl ?_
            rcases q with ⟨q1, q2⟩ | ⟨q1, q2, q3⟩
            · exact ⟨h2.1, (F1.cov (by decide)).tr (F2.cov (by decide)), Or.inr ⟨rfl, 1, (tq_nx tp B M t).2.1, by rw [ls_line_2 hk2]; show ls_b (ls_more tp B M (nt_c 2 NT) 5 (t, A, nr, NT)) _ = _; rw [show ls_more tp B M (nt_c 2 NT) 5 (t, A, nr, NT) = .inr ((tq_nx tp B M t), A, nr, NT) from if_pos (by omega)]; rw [ls_br]; exact ls_new_1 q1, q2⟩⟩
            · exact ⟨h2.1, (F1.cov (by decide)).tr (F2.cov (by decide)), Or.inr ⟨rfl, 3, (tq_nx tp B M t).2.1, by rw [ls_line_2 hk2]; show ls_b (ls_more tp B M (nt_c 2 NT) 5 (t, A, nr, NT)) _ = _; rw [show ls_more tp B M (nt_c 2 NT) 5 (t, A, nr, NT) = .inr ((tq_nx tp B M t), A, nr, NT) from if_pos (by omega)]; rw [ls_br]; exact ls_new_3 q1 q2, q3⟩⟩
        · skip
          refine hq_F.st (s' := (96, _, _, _)) hg188_93 rfl rfl rfl (hs_icn (t := 102) (ci_nen (by omega)) rfl) ?_
          refine hq_F.st (s' := (97, _, _, _)) hg188_96 rfl rfl rfl (hs_al g0) ?_
          refine hq_F.st (s' := (98, _, _, _)) hg188_97 rfl rfl rfl rfl ?_
          refine hq_F.call hg188_98 rfl rfl si_11_178 (by decide) (by decide) sz_177 (sy_argsV h.1 sh_61 rfl rfl rfl (Nat.le_of_ble_eq_true rfl) rfl (Nat.le_of_ble_eq_true rfl) rfl (by decide)) (mt_bad h ((Int32.ofInt 4))) (fun _ _ q => by rw [q.2.1.1.1, h.1.1]) ?_
          rintro r98 w9 ⟨rfl, k1, k2, k3, k4⟩
          try dsimp only
          refine hq_F.en hg188_101 rfl rfl ?_
          exact ⟨k1.1, k2.cov (by decide), Or.inr ⟨rfl, 4, t.2.1, by rw [ls_line_2 hk2]; show ls_b (ls_more tp B M (nt_c 2 NT) 5 (t, A, nr, NT)) _ = _; rw [show ls_more tp B M (nt_c 2 NT) 5 (t, A, nr, NT) = .inl (4, t.2.1) from if_neg (by omega)]; rfl, by rw [k3]; decide, k4⟩⟩
      · rw [decide_eq_false hk2, show tq_b false = (0 : Int32) from rfl]
        refine hq_F.st (s' := (136, _, _, _)) hg188_83 rfl rfl rfl (hs_if (ci_eq (by omega)) rfl) ?_
        refine hq_F.st (s' := (137, _, _, _)) hg188_136 rfl rfl rfl (hs_al g0) ?_
        refine hq_F.st (s' := (140, _, _, _)) hg188_137 rfl rfl rfl rfl ?_
        refine hq_F.call hg188_140 rfl rfl si_11_206 (by decide) (by decide) sz_178 (sy_argsV h.1 sh_61 rfl rfl rfl (Nat.le_of_ble_eq_true rfl) rfl (Nat.le_of_ble_eq_true rfl) rfl (by decide)) (ml_isW (k := 3) h (by decide) kwx_3) (fun _ _ q => by rw [q.1]) ?_
        rintro r140 w ⟨rfl, rfl⟩
        try dsimp only
        by_cases hk3 : ls_k t = ((3 : Nat) : Int)
        · rw [decide_eq_true hk3, show tq_b true = (1 : Int32) from rfl]
          have h2t : 2 ≤ t.1 := by rw [ls_k2 (t := t) (by omega)]; omega
          refine hq_F.st (s' := (156, _, _, _)) hg188_143 rfl rfl rfl (hs_if (ci_ne (by omega)) rfl) ?_
          refine hq_F.st (s' := (157, _, _, _)) hg188_156 rfl rfl rfl (hs_al g0) ?_
          refine hq_F.st (s' := (158, _, _, _)) hg188_157 rfl rfl rfl (hs_al g0) ?_
          refine hq_F.st (s' := (161, _, _, _)) hg188_158 rfl rfl rfl rfl ?_
          refine hq_F.call hg188_161 rfl rfl si_11_206 (by decide) (by decide) sz_178 (sy_argsV h.1 sh_61 rfl rfl rfl (Nat.le_of_ble_eq_true rfl) rfl (Nat.le_of_ble_eq_true rfl) rfl (by decide)) (ml_isW (k := 4) h (by decide) kwx_4) (fun _ _ q => by rw [q.1]) ?_
          rintro r161 w ⟨rfl, rfl⟩
          try dsimp only
          rw [decide_eq_false (show ¬ ls_k t = ((4 : Nat) : Int) by omega), show tq_b false = (0 : Int32) from rfl]
          refine hq_F.call hg188_164 rfl rfl si_11_216 (by decide) (by decide) sz_190 (sy_argsV h.1 sh_61 rfl rfl rfl (Nat.le_of_ble_eq_true rfl) rfl (Nat.le_of_ble_eq_true rfl) rfl (by decide)) (ml_law (d := d) (σ := (t, A, nr, NT)) ⟨h, hL⟩ hJ h2t) (fun _ _ q => by rw [q.1.1, h.1.1]) ?_
          rintro r164 w1 ⟨hC1, F1, q⟩
          try dsimp only
          rcases q with ⟨rfl, σ1, e1, O1⟩ | ⟨rfl, k, p, e1, q1⟩
          · skip
            refine hq_F.en hg188_167 rfl rfl ?_
            exact ⟨hC1, F1, Or.inl ⟨rfl, σ1, by rw [ls_line_3 hk3]; exact e1, O1⟩⟩
          · skip
            refine hq_F.en hg188_167 rfl rfl ?_
            exact ⟨hC1, F1, Or.inr ⟨rfl, k, p, by rw [ls_line_3 hk3]; exact e1, q1⟩⟩
        · rw [decide_eq_false hk3, show tq_b false = (0 : Int32) from rfl]
          refine hq_F.st (s' := (146, _, _, _)) hg188_143 rfl rfl rfl (hs_ifn (t := 156) (ci_nen (by omega)) rfl) ?_
          refine hq_F.st (s' := (147, _, _, _)) hg188_146 rfl rfl rfl (hs_al g0) ?_
          refine hq_F.st (s' := (150, _, _, _)) hg188_147 rfl rfl rfl rfl ?_
          refine hq_F.call hg188_150 rfl rfl si_11_206 (by decide) (by decide) sz_178 (sy_argsV h.1 sh_61 rfl rfl rfl (Nat.le_of_ble_eq_true rfl) rfl (Nat.le_of_ble_eq_true rfl) rfl (by decide)) (ml_isW (k := 4) h (by decide) kwx_4) (fun _ _ q => by rw [q.1]) ?_
          rintro r150 w ⟨rfl, rfl⟩
          try dsimp only
          by_cases hk4 : ls_k t = ((4 : Nat) : Int)
          · rw [decide_eq_true hk4, show tq_b true = (1 : Int32) from rfl]
            have h2t : 2 ≤ t.1 := by rw [ls_k2 (t := t) (by omega)]; omega
            refine hq_F.st (s' := (156, _, _, _)) hg188_153 rfl rfl rfl (hs_ifn (t := 168) (ci_eqn (by omega)) rfl) ?_
            refine hq_F.st (s' := (157, _, _, _)) hg188_156 rfl rfl rfl (hs_al g0) ?_
            refine hq_F.st (s' := (158, _, _, _)) hg188_157 rfl rfl rfl (hs_al g0) ?_
            refine hq_F.st (s' := (161, _, _, _)) hg188_158 rfl rfl rfl rfl ?_
            refine hq_F.call hg188_161 rfl rfl si_11_206 (by decide) (by decide) sz_178 (sy_argsV h.1 sh_61 rfl rfl rfl (Nat.le_of_ble_eq_true rfl) rfl (Nat.le_of_ble_eq_true rfl) rfl (by decide)) (ml_isW (k := 4) h (by decide) kwx_4) (fun _ _ q => by rw [q.1]) ?_
            rintro r161 w ⟨rfl, rfl⟩
            try dsimp only
            rw [decide_eq_true (show ls_k t = ((4 : Nat) : Int) from hk4), show tq_b true = (1 : Int32) from rfl]
            refine hq_F.call hg188_164 rfl rfl si_11_216 (by decide) (by decide) sz_190 (sy_argsV h.1 sh_61 rfl rfl rfl (Nat.le_of_ble_eq_true rfl) rfl (Nat.le_of_ble_eq_true rfl) rfl (by decide)) (ml_repeal (d := d) (σ := (t, A, nr, NT)) ⟨h, hL⟩ hJ h2t) (fun _ _ q => by rw [q.1.1, h.1.1]) ?_
            rintro r164 w1 ⟨hC1, F1, q⟩
            try dsimp only
            rcases q with ⟨rfl, σ1, e1, O1⟩ | ⟨rfl, k, p, e1, q1⟩
            · skip
              refine hq_F.en hg188_167 rfl rfl ?_
              exact ⟨hC1, F1, Or.inl ⟨rfl, σ1, by rw [ls_line_4 hk4]; exact e1, O1⟩⟩
            · skip
              refine hq_F.en hg188_167 rfl rfl ?_
              exact ⟨hC1, F1, Or.inr ⟨rfl, k, p, by rw [ls_line_4 hk4]; exact e1, q1⟩⟩
          · rw [decide_eq_false hk4, show tq_b false = (0 : Int32) from rfl]
            refine hq_F.st (s' := (168, _, _, _)) hg188_153 rfl rfl rfl (hs_if (ci_eq (by omega)) rfl) ?_
            refine hq_F.st (s' := (169, _, _, _)) hg188_168 rfl rfl rfl (hs_al g0) ?_
            refine hq_F.st (s' := (172, _, _, _)) hg188_169 rfl rfl rfl rfl ?_
            refine hq_F.call hg188_172 rfl rfl si_11_206 (by decide) (by decide) sz_178 (sy_argsV h.1 sh_61 rfl rfl rfl (Nat.le_of_ble_eq_true rfl) rfl (Nat.le_of_ble_eq_true rfl) rfl (by decide)) (ml_isW (k := 5) h (by decide) kwx_5) (fun _ _ q => by rw [q.1]) ?_
            rintro r172 w ⟨rfl, rfl⟩
            try dsimp only
            by_cases hk5 : ls_k t = ((5 : Nat) : Int)
            · rw [decide_eq_true hk5, show tq_b true = (1 : Int32) from rfl]
              have h2t : 2 ≤ t.1 := by rw [ls_k2 (t := t) (by omega)]; omega
              refine hq_F.st (s' := (178, _, _, _)) hg188_175 rfl rfl rfl (hs_ifn (t := 270) (ci_eqn (by omega)) rfl) ?_
              refine hq_F.st (s' := (179, _, _, _)) hg188_178 rfl rfl rfl (hs_al g0) ?_
              refine hq_F.st (s' := (182, _, _, _)) hg188_179 rfl rfl rfl (hq_gf h.1 sh_61 sk_11_37 (hq_ref h.1 sh_61 (b := 64) rfl)) ?_
              refine hq_F.st (s' := (183, _, _, _)) hg188_182 rfl rfl rfl rfl ?_
              refine hq_F.st (s' := (184, _, _, _)) hg188_183 rfl rfl rfl (sy_iav h.1 sh_64 (n := 4) (by decide) (by decide)) ?_
              rw [show gv w 64 (4) = Int32.ofNat (nt_c 4 NT) from (hn_e (hL.2.1 4 (by omega)) (by omega))]
              have tl : (Int32.ofNat (nt_c 4 NT)).toInt = (nt_c 4 NT : Int) := hn_t (by omega)
              refine hq_F.st (s' := (185, _, _, _)) hg188_184 rfl rfl rfl rfl ?_
              refine hq_F.st (s' := (186, _, _, _)) hg188_185 rfl rfl rfl (hs_iln (pi_get_set _ _ _)) ?_
              refine hq_F.st (s' := (188, _, _, _)) hg188_186 rfl rfl rfl rfl ?_
              by_cases b188 : ¬ ((Int32.ofNat (nt_c 4 NT))).toInt = 6
              · skip
                refine hq_F.st (s' := (197, _, _, _)) hg188_188 rfl rfl rfl (hs_ic (ci_ne (by omega)) rfl) ?_
                have hlt : nt_c 4 NT < nt_mx 4 := by show nt_c 4 NT < 6; omega
                refine hq_F.st (s' := (198, _, _, _)) hg188_197 rfl rfl rfl (hs_al (hg_nr g0 (by decide))) ?_
                refine hq_F.call hg188_198 rfl rfl si_11_181 (by decide) (by decide) sz_176 (sy_argsV h.1 sh_61 rfl rfl rfl (Nat.le_of_ble_eq_true rfl) rfl (Nat.le_of_ble_eq_true rfl) rfl (by decide)) (mt_adv (d := d + 3) h h2t) (fun _ _ q => by rw [q.2.1.1.1, h.1.1]) ?_
                rintro r198 w1 ⟨rfl, h1, F1⟩
                try dsimp only
                have hL1 : MLx w1 A nr NT NT := hL.fr F1 (by decide) (by decide)
                refine hq_F.st (s' := (202, _, _, _)) hg188_201 rfl rfl rfl (hs_al (hg_nr g0 (by decide))) ?_
                refine hq_F.st (s' := (204, _, _, _)) hg188_202 rfl rfl rfl rfl ?_
                refine hq_F.st (s' := (205, _, _, _)) hg188_204 rfl rfl rfl (hs_iln (pi_get_set _ _ _)) ?_
                refine hq_F.st (s' := (206, _, _, _)) hg188_205 rfl rfl rfl rfl ?_
                refine hq_F.call hg188_206 rfl rfl si_11_210 (by decide) (by decide) sz_185 (sy_argsV h1.1 sh_61 rfl rfl rfl (Nat.le_of_ble_eq_true rfl) rfl (Nat.le_of_ble_eq_true rfl) rfl (by decide)) (mn_fr (d := d + 2) (b := 48 + nt_c 4 NT) h1 hL1.1 ho hL1.2.1 ⟨m0, m2, m3, m4⟩ (hn_k hv_48) (by omega)) (fun r w' q => by rcases q with ⟨_, _, _, q, _⟩ | ⟨_, q, _⟩; rw [q.1.1, h1.1.1]; rw [q.1.1, h1.1.1]) ?_
                rintro r206 w2 q
                try dsimp only
                rcases q with ⟨rfl, n2, f2, h2, F2, g2⟩ | ⟨rfl, h2, F2, q⟩
                · have hL2 := hL1.fresh (s := 4) ho ⟨m0, m2, m3, m4⟩ (by omega) hlt (by show 48 + nt_c 4 NT = 27 + 21 + nt_c 4 NT; omega) F2 g2
                  refine hq_F.st (s' := (212, _, _, _)) hg188_209 rfl rfl rfl (hs_ifn (t := 227) (ci_eqn (by omega)) rfl) ?_
                  have ho2 : nt_ok (NT ++ [(4, nt_c 4 NT, (tq_nx tp B M t).2.2.2.1)]) := nt_ok_app ho (by omega) (h1.2.2.2.2.2.2.2 n2.1) f2
                  have c02 : nt_c 0 NT = nt_c 0 (NT ++ [(4, nt_c 4 NT, (tq_nx tp B M t).2.2.2.1)]) := by rw [nt_c_app, if_neg (show ¬ 4 = 0 by decide)]; rfl
                  refine hq_F.st (s' := (213, _, _, _)) hg188_212 rfl rfl rfl (hs_al (hg_nr g0 (by decide))) ?_
                  refine hq_F.st (s' := (215, _, _, _)) hg188_213 rfl rfl rfl rfl ?_
                  refine hq_F.st (s' := (216, _, _, _)) hg188_215 rfl rfl rfl (hs_al (hg_nr g0 (by decide))) ?_
                  refine hq_F.st (s' := (219, _, _, _)) hg188_216 rfl rfl rfl (hq_gf h2.1 sh_61 sk_11_37 (hq_ref h2.1 sh_61 (b := 64) rfl)) ?_
                  refine hq_F.st (s' := (220, _, _, _)) hg188_219 rfl rfl rfl rfl ?_
                  refine hq_F.st (s' := (221, _, _, _)) hg188_220 rfl rfl rfl (sy_iav h2.1 sh_64 (n := 0) (by decide) (by decide)) ?_
                  refine hq_F.call hg188_221 rfl rfl si_11_220 (by decide) (by decide) sz_187 (sy_argsV h2.1 sh_61 rfl rfl rfl (Nat.le_of_ble_eq_true rfl) rfl (Nat.le_of_ble_eq_true rfl) rfl (by decide)) (mn_tk (d := d + 2) (off := 27) (s := 0) h2 hL2.1 ho2 (by decide) (by rw [hL2.2.1 0 (by omega), c02]) (by show 27 + 0 + nt_c 0 (NT ++ [(4, nt_c 4 NT, (tq_nx tp B M t).2.2.2.1)]) ≤ 54; omega)) (fun r w' q => by rcases q with ⟨_, _, _, q, _⟩ | ⟨_, q, _⟩; rw [q.1.1, h2.1.1]; rw [q.1.1, h2.1.1]) ?_
                  rintro r221 w3 q
                  try dsimp only
                  rcases q with ⟨rfl, n3, f3, h3, F3, g3⟩ | ⟨rfl, h3, F3, q⟩
                  · obtain ⟨a, ha, ea, la⟩ := ls_look_in ho2 (by omega) n3 g3 f3
                    have ta : (Int32.ofNat a).toInt = (a : Int) := hn_t (by omega)
                    refine hq_F.st (s' := (229, _, _, _)) hg188_224 rfl rfl rfl (hs_if (ci_ne (by omega)) rfl) ?_
                    have hL3 := hL2.fr F3 (by decide) (by decide)
                    refine hq_F.st (s' := (230, _, _, _)) hg188_229 rfl rfl rfl (hs_al (hg_nr g0 (by decide))) ?_
                    refine hq_F.st (s' := (233, _, _, _)) hg188_230 rfl rfl rfl (hq_gf h3.1 sh_61 sk_11_37 (hq_ref h3.1 sh_61 (b := 64) rfl)) ?_
                    refine hq_F.st (s' := (235, _, _, _)) hg188_233 rfl rfl rfl rfl ?_
                    refine hq_F.st (s' := (236, _, _, _)) hg188_235 rfl rfl rfl (hs_iln (pi_get_set _ _ _)) ?_
                    refine hq_F.st (s' := (237, _, _, _)) hg188_236 rfl rfl rfl rfl ?_
                    refine hq_F.st (s' := (238, _, _, _)) hg188_237 rfl rfl rfl (hs_al (hg_nr g0 (by decide))) ?_
                    refine hq_F.st (s' := (241, _, _, _)) hg188_238 rfl rfl rfl (hq_gf h3.1 sh_61 sk_11_188 (sy_v h3.1 (by decide) rfl)) ?_
                    rw [show gv w3 61 18 = Int32.ofNat a from by exact ea]
                    refine sy_isv hg188_241 h3.1 sh_64 (n := 33 + nt_c 4 NT) (by rw [hn_k (n := nt_c 4 NT) hv_33]; exact hn_t (by omega)) (by omega) (sy_sr (sn_33 _ (by omega) (by omega)) (by omega) (by omega)) (fun w4 hC4 hw4 => ?_)
                    have hT4 := h3.fr hC4 (wpF hw4) rfl
                    have hL4 := hL3.put (c0 := 5) (k0 := nt_c 4 NT) (by decide) (by show nt_c 4 NT < 6; omega) hw4
                    refine hq_F.st (s' := (243, _, _, _)) hg188_242 rfl rfl rfl (hs_al (hg_nr g0 (by decide))) ?_
                    refine hq_F.st (s' := (245, _, _, _)) hg188_243 rfl rfl rfl rfl ?_
                    refine hq_F.st (s' := (246, _, _, _)) hg188_245 rfl rfl rfl (hs_iln (pi_get_set _ _ _)) ?_
                    refine hq_F.st (s' := (247, _, _, _)) hg188_246 rfl rfl rfl rfl ?_
                    refine hq_F.st (s' := (248, _, _, _)) hg188_247 rfl rfl rfl rfl ?_
                    refine hq_F.st (s' := (250, _, _, _)) hg188_248 rfl rfl rfl rfl ?_
                    refine hq_F.call hg188_250 rfl rfl si_11_223 (by decide) (by decide) sz_183 (sy_argsV hC4 sh_61 rfl rfl rfl (Nat.le_of_ble_eq_true rfl) rfl (Nat.le_of_ble_eq_true rfl) rfl (by decide)) (ml_puts (d := d + 1) (n := 39 + nt_c 4 NT) hT4 (by rw [hn_k (n := nt_c 4 NT) hv_39]; exact hn_t (by omega)) (by omega) (fun v q1 q2 => sy_sr (sn_33 _ (by omega) (by omega)) (by omega) (by omega))) (fun r w' q => by rcases q with ⟨_, _, _, q, _⟩ | ⟨_, q, _⟩; rw [q.1.1, hC4.1]; rw [q.1.1, hC4.1]) ?_
                    rintro r250 w5 q
                    try dsimp only
                    rcases q with ⟨rfl, n5, r5, h5, w50, v5, F50, e5, hw5⟩ | ⟨rfl, h5, F5, r5, q⟩
                    · have hL5 := (hL4.fr F50 (by decide) (by decide)).put (c0 := 6) (k0 := nt_c 4 NT) (by decide) (by show nt_c 4 NT < 6; omega) hw5
                      refine hq_F.st (s' := (258, _, _, _)) hg188_253 rfl rfl rfl (hs_if (ci_ne (by omega)) rfl) ?_
                      refine hq_F.st (s' := (259, _, _, _)) hg188_258 rfl rfl rfl (hs_al (hg_nr g0 (by decide))) ?_
                      refine hq_F.st (s' := (262, _, _, _)) hg188_259 rfl rfl rfl (hq_gf h5.1 sh_61 sk_11_37 (hq_ref h5.1 sh_61 (b := 64) rfl)) ?_
                      refine hq_F.st (s' := (263, _, _, _)) hg188_262 rfl rfl rfl rfl ?_
                      refine hq_F.st (s' := (264, _, _, _)) hg188_263 rfl rfl rfl rfl ?_
                      refine hq_F.st (s' := (265, _, _, _)) hg188_264 rfl rfl rfl (sy_iav h5.1 sh_64 (n := 4) (by decide) (by decide)) ?_
                      rw [show gv w5 64 (4) = Int32.ofNat (nt_c 4 NT) from (hn_e (hL5.2.1 4 (by omega)) (by omega))]
                      refine hq_F.st (s' := (266, _, _, _)) hg188_265 rfl rfl rfl rfl ?_
                      refine hq_F.st (s' := (267, _, _, _)) hg188_266 rfl rfl rfl rfl ?_
                      rw [hn_s]
                      have tl1 : (Int32.ofNat (nt_c 4 NT + 1)).toInt = ((nt_c 4 NT + 1 : Nat) : Int) := hn_t (by omega)
                      refine sy_isv hg188_267 h5.1 sh_64 (n := 4) (by decide) (by decide) (sy_sr sn_4 (by omega) (by omega)) (fun w6 hC6 hw6 => ?_)
                      refine hq_F.st (s' := (269, _, _, _)) hg188_268 rfl rfl rfl rfl ?_
                      refine hq_F.en hg188_269 rfl rfl ?_
                      have hv5 : v5 = Int32.ofNat (tq_nx tp B M (tq_nx tp B M (tq_nx tp B M t))).2.2.1 := hn_e e5 (by omega)
                      have hid : ld_u (ld_u (ld_u A 5 (nt_c 4 NT) (Int32.ofNat a)) 6 (nt_c 4 NT) v5) 7 (nt_c 4 NT) 0 = (ld_u (ld_u A 5 (nt_c 4 NT) (Int32.ofNat a)) 6 (nt_c 4 NT) v5) := ld_u_id (by unfold ld_u; rw [if_neg (fun q => absurd q.1 (by decide)), if_neg (fun q => absurd q.1 (by decide))]; exact i7 _ (Nat.le_refl _))
                      exact ⟨hC6, (F1.cov (by decide)).tr ((ml_f66 F2 (by omega)).tr ((F3.cov (by decide)).tr ((ml_w64 hw4 (by omega)).tr ((F50.cov (by decide)).tr ((ml_w64 hw5 (by omega)).tr (ml_w64 hw6 (by omega))))))), Or.inl ⟨rfl, (tq_nx tp B M (tq_nx tp B M (tq_nx tp B M (tq_nx tp B M t))), ld_u (ld_u (ld_u A 5 (nt_c 4 NT) (Int32.ofNat a)) 6 (nt_c 4 NT) v5) 7 (nt_c 4 NT) 0, nr, (NT ++ [(4, nt_c 4 NT, (tq_nx tp B M t).2.2.2.1)])), by rw [ls_line_5 hk5]; show ls_b (ls_more tp B M (nt_c 4 NT) 6 (t, A, nr, NT)) _ = _; rw [show ls_more tp B M (nt_c 4 NT) 6 (t, A, nr, NT) = .inr ((tq_nx tp B M t), A, nr, NT) from if_pos (by omega)]; rw [ls_br]; show ls_b (ls_new tp B M 4 ((tq_nx tp B M t), A, nr, NT)) _ = _; rw [ls_new_in n2 f2, ls_br]; show ls_b (ls_look 0 (tq_nx tp B M (tq_nx tp B M t)) (NT ++ [(4, nt_c 4 NT, (tq_nx tp B M t).2.2.2.1)])) _ = _; rw [la, ls_br]; show ls_b (ls_numb 0 9 (tq_nx tp B M (tq_nx tp B M (tq_nx tp B M t)))) _ = _; rw [show ls_numb 0 9 (tq_nx tp B M (tq_nx tp B M (tq_nx tp B M t))) = .inr (tq_nx tp B M (tq_nx tp B M (tq_nx tp B M t))).2.2.1 from if_pos ⟨n5, by omega, by omega⟩, ls_br]; rw [hv5], h5.fr hC6 (wpF hw6) rfl, by show ML w6 (ld_u (ld_u (ld_u A 5 (nt_c 4 NT) (Int32.ofNat a)) 6 (nt_c 4 NT) v5) 7 (nt_c 4 NT) 0) nr _; rw [hid]; exact hL5.cnt (by omega) hw6 tl1⟩⟩
                    · skip
                      refine hq_F.st (s' := (256, _, _, _)) hg188_253 rfl rfl rfl (hs_ifn (t := 258) (ci_nen (by omega)) rfl) ?_
                      refine hq_F.st (s' := (257, _, _, _)) hg188_256 rfl rfl rfl rfl ?_
                      refine hq_F.en hg188_257 rfl rfl ?_
                      exact ⟨h5.1, (F1.cov (by decide)).tr ((ml_f66 F2 (by omega)).tr ((F3.cov (by decide)).tr ((ml_w64 hw4 (by omega)).tr (F5.cov (by decide))))), Or.inr ⟨rfl, (if (tq_nx tp B M (tq_nx tp B M (tq_nx tp B M t))).1 = 3 then 2 else 1), (tq_nx tp B M (tq_nx tp B M (tq_nx tp B M t))).2.1, by rw [ls_line_5 hk5]; show ls_b (ls_more tp B M (nt_c 4 NT) 6 (t, A, nr, NT)) _ = _; rw [show ls_more tp B M (nt_c 4 NT) 6 (t, A, nr, NT) = .inr ((tq_nx tp B M t), A, nr, NT) from if_pos (by omega)]; rw [ls_br]; show ls_b (ls_new tp B M 4 ((tq_nx tp B M t), A, nr, NT)) _ = _; rw [ls_new_in n2 f2, ls_br]; show ls_b (ls_look 0 (tq_nx tp B M (tq_nx tp B M t)) (NT ++ [(4, nt_c 4 NT, (tq_nx tp B M t).2.2.2.1)])) _ = _; rw [la, ls_br]; show ls_b (ls_numb 0 9 (tq_nx tp B M (tq_nx tp B M (tq_nx tp B M t)))) _ = _; rw [show ls_numb 0 9 (tq_nx tp B M (tq_nx tp B M (tq_nx tp B M t))) = .inl (if (tq_nx tp B M (tq_nx tp B M (tq_nx tp B M t))).1 = 3 then 2 else 1, (tq_nx tp B M (tq_nx tp B M (tq_nx tp B M t))).2.1) from if_neg (fun q => r5 ⟨q.1, by omega, by omega⟩)]; rfl, q⟩⟩
                  · skip
                    refine hq_F.st (s' := (227, _, _, _)) hg188_224 rfl rfl rfl (hs_ifn (t := 229) (ci_nen (by omega)) rfl) ?_
                    refine hq_F.st (s' := (228, _, _, _)) hg188_227 rfl rfl rfl rfl ?_
                    refine hq_F.en hg188_228 rfl rfl ?_
                    rcases q with ⟨q1, q2⟩ | ⟨q1, q2, q3⟩
                    · exact ⟨h3.1, (F1.cov (by decide)).tr ((ml_f66 F2 (by omega)).tr (F3.cov (by decide))), Or.inr ⟨rfl, 1, (tq_nx tp B M (tq_nx tp B M t)).2.1, by rw [ls_line_5 hk5]; show ls_b (ls_more tp B M (nt_c 4 NT) 6 (t, A, nr, NT)) _ = _; rw [show ls_more tp B M (nt_c 4 NT) 6 (t, A, nr, NT) = .inr ((tq_nx tp B M t), A, nr, NT) from if_pos (by omega)]; rw [ls_br]; show ls_b (ls_new tp B M 4 ((tq_nx tp B M t), A, nr, NT)) _ = _; rw [ls_new_in n2 f2, ls_br]; show ls_b (ls_look 0 (tq_nx tp B M (tq_nx tp B M t)) (NT ++ [(4, nt_c 4 NT, (tq_nx tp B M t).2.2.2.1)])) _ = _; rw [ls_look_1 q1]; rfl, q2⟩⟩
                    · exact ⟨h3.1, (F1.cov (by decide)).tr ((ml_f66 F2 (by omega)).tr (F3.cov (by decide))), Or.inr ⟨rfl, 3, (tq_nx tp B M (tq_nx tp B M t)).2.1, by rw [ls_line_5 hk5]; show ls_b (ls_more tp B M (nt_c 4 NT) 6 (t, A, nr, NT)) _ = _; rw [show ls_more tp B M (nt_c 4 NT) 6 (t, A, nr, NT) = .inr ((tq_nx tp B M t), A, nr, NT) from if_pos (by omega)]; rw [ls_br]; show ls_b (ls_new tp B M 4 ((tq_nx tp B M t), A, nr, NT)) _ = _; rw [ls_new_in n2 f2, ls_br]; show ls_b (ls_look 0 (tq_nx tp B M (tq_nx tp B M t)) (NT ++ [(4, nt_c 4 NT, (tq_nx tp B M t).2.2.2.1)])) _ = _; rw [ls_look_3 q1 q2]; rfl, q3⟩⟩
                · skip
                  refine hq_F.st (s' := (227, _, _, _)) hg188_209 rfl rfl rfl (hs_if (ci_eq (by omega)) rfl) ?_
                  refine hq_F.st (s' := (228, _, _, _)) hg188_227 rfl rfl rfl rfl ?_
                  refine hq_F.en hg188_228 rfl rfl ?_
                  rcases q with ⟨q1, q2⟩ | ⟨q1, q2, q3⟩
                  · exact ⟨h2.1, (F1.cov (by decide)).tr (F2.cov (by decide)), Or.inr ⟨rfl, 1, (tq_nx tp B M t).2.1, by rw [ls_line_5 hk5]; show ls_b (ls_more tp B M (nt_c 4 NT) 6 (t, A, nr, NT)) _ = _; rw [show ls_more tp B M (nt_c 4 NT) 6 (t, A, nr, NT) = .inr ((tq_nx tp B M t), A, nr, NT) from if_pos (by omega)]; rw [ls_br]; show ls_b (ls_new tp B M 4 ((tq_nx tp B M t), A, nr, NT)) _ = _; rw [ls_new_1 q1]; rfl, q2⟩⟩
                  · exact ⟨h2.1, (F1.cov (by decide)).tr (F2.cov (by decide)), Or.inr ⟨rfl, 3, (tq_nx tp B M t).2.1, by rw [ls_line_5 hk5]; show ls_b (ls_more tp B M (nt_c 4 NT) 6 (t, A, nr, NT)) _ = _; rw [show ls_more tp B M (nt_c 4 NT) 6 (t, A, nr, NT) = .inr ((tq_nx tp B M t), A, nr, NT) from if_pos (by omega)]; rw [ls_br]; show ls_b (ls_new tp B M 4 ((tq_nx tp B M t), A, nr, NT)) _ = _; rw [ls_new_3 q1 q2]; rfl, q3⟩⟩
              · skip
                refine hq_F.st (s' := (191, _, _, _)) hg188_188 rfl rfl rfl (hs_icn (t := 197) (ci_nen (by omega)) rfl) ?_
                refine hq_F.st (s' := (192, _, _, _)) hg188_191 rfl rfl rfl (hs_al (hg_nr g0 (by decide))) ?_
                refine hq_F.st (s' := (193, _, _, _)) hg188_192 rfl rfl rfl rfl ?_
                refine hq_F.call hg188_193 rfl rfl si_11_178 (by decide) (by decide) sz_177 (sy_argsV h.1 sh_61 rfl rfl rfl (Nat.le_of_ble_eq_true rfl) rfl (Nat.le_of_ble_eq_true rfl) rfl (by decide)) (mt_bad h ((Int32.ofInt 4))) (fun _ _ q => by rw [q.2.1.1.1, h.1.1]) ?_
                rintro r193 w9 ⟨rfl, k1, k2, k3, k4⟩
                try dsimp only
                refine hq_F.en hg188_196 rfl rfl ?_
                exact ⟨k1.1, k2.cov (by decide), Or.inr ⟨rfl, 4, t.2.1, by rw [ls_line_5 hk5]; show ls_b (ls_more tp B M (nt_c 4 NT) 6 (t, A, nr, NT)) _ = _; rw [show ls_more tp B M (nt_c 4 NT) 6 (t, A, nr, NT) = .inl (4, t.2.1) from if_neg (by omega)]; rfl, by rw [k3]; decide, k4⟩⟩
            · rw [decide_eq_false hk5, show tq_b false = (0 : Int32) from rfl]
              refine hq_F.st (s' := (270, _, _, _)) hg188_175 rfl rfl rfl (hs_if (ci_eq (by omega)) rfl) ?_
              refine hq_F.st (s' := (271, _, _, _)) hg188_270 rfl rfl rfl (hs_al g0) ?_
              refine hq_F.st (s' := (274, _, _, _)) hg188_271 rfl rfl rfl rfl ?_
              refine hq_F.call hg188_274 rfl rfl si_11_206 (by decide) (by decide) sz_178 (sy_argsV h.1 sh_61 rfl rfl rfl (Nat.le_of_ble_eq_true rfl) rfl (Nat.le_of_ble_eq_true rfl) rfl (by decide)) (ml_isW (k := 6) h (by decide) kwx_6) (fun _ _ q => by rw [q.1]) ?_
              rintro r274 w ⟨rfl, rfl⟩
              try dsimp only
              by_cases hk6 : ls_k t = ((6 : Nat) : Int)
              · rw [decide_eq_true hk6, show tq_b true = (1 : Int32) from rfl]
                have h2t : 2 ≤ t.1 := by rw [ls_k2 (t := t) (by omega)]; omega
                refine hq_F.st (s' := (280, _, _, _)) hg188_277 rfl rfl rfl (hs_ifn (t := 285) (ci_eqn (by omega)) rfl) ?_
                refine hq_F.st (s' := (281, _, _, _)) hg188_280 rfl rfl rfl (hs_al g0) ?_
                refine hq_F.call hg188_281 rfl rfl si_11_226 (by decide) (by decide) sz_191 (sy_argsV h.1 sh_61 rfl rfl rfl (Nat.le_of_ble_eq_true rfl) rfl (Nat.le_of_ble_eq_true rfl) rfl (by decide)) (ml_round (d := d + 1) (σ := (t, A, nr, NT)) ⟨h, hL⟩ hJ h2t) (fun _ _ q => by rw [q.1.1, h.1.1]) ?_
                rintro r281 w1 ⟨hC1, F1, q⟩
                try dsimp only
                rcases q with ⟨rfl, σ1, e1, O1⟩ | ⟨rfl, k, p, e1, q1⟩
                · skip
                  refine hq_F.en hg188_284 rfl rfl ?_
                  exact ⟨hC1, F1, Or.inl ⟨rfl, σ1, by rw [ls_line_6 hk6]; exact e1, O1⟩⟩
                · skip
                  refine hq_F.en hg188_284 rfl rfl ?_
                  exact ⟨hC1, F1, Or.inr ⟨rfl, k, p, by rw [ls_line_6 hk6]; exact e1, q1⟩⟩
              · rw [decide_eq_false hk6, show tq_b false = (0 : Int32) from rfl]
                refine hq_F.st (s' := (285, _, _, _)) hg188_277 rfl rfl rfl (hs_if (ci_eq (by omega)) rfl) ?_
                refine hq_F.st (s' := (286, _, _, _)) hg188_285 rfl rfl rfl (hs_al g0) ?_
                refine hq_F.st (s' := (289, _, _, _)) hg188_286 rfl rfl rfl rfl ?_
                refine hq_F.call hg188_289 rfl rfl si_11_206 (by decide) (by decide) sz_178 (sy_argsV h.1 sh_61 rfl rfl rfl (Nat.le_of_ble_eq_true rfl) rfl (Nat.le_of_ble_eq_true rfl) rfl (by decide)) (ml_isW (k := 7) h (by decide) kwx_7) (fun _ _ q => by rw [q.1]) ?_
                rintro r289 w ⟨rfl, rfl⟩
                try dsimp only
                by_cases hk7 : ls_k t = ((7 : Nat) : Int)
                · rw [decide_eq_true hk7, show tq_b true = (1 : Int32) from rfl]
                  have h2t : 2 ≤ t.1 := by rw [ls_k2 (t := t) (by omega)]; omega
                  refine hq_F.st (s' := (295, _, _, _)) hg188_292 rfl rfl rfl (hs_ifn (t := 395) (ci_eqn (by omega)) rfl) ?_
                  refine hq_F.st (s' := (296, _, _, _)) hg188_295 rfl rfl rfl (hs_al g0) ?_
                  refine hq_F.call hg188_296 rfl rfl si_11_181 (by decide) (by decide) sz_176 (sy_argsV h.1 sh_61 rfl rfl rfl (Nat.le_of_ble_eq_true rfl) rfl (Nat.le_of_ble_eq_true rfl) rfl (by decide)) (mt_adv (d := d + 3) h h2t) (fun _ _ q => by rw [q.2.1.1.1, h.1.1]) ?_
                  rintro r296 w1 ⟨rfl, h1, F1⟩
                  try dsimp only
                  have hL1 : MLx w1 A nr NT NT := hL.fr F1 (by decide) (by decide)
                  refine hq_F.st (s' := (300, _, _, _)) hg188_299 rfl rfl rfl (hs_al g0) ?_
                  refine hq_F.st (s' := (302, _, _, _)) hg188_300 rfl rfl rfl rfl ?_
                  refine hq_F.st (s' := (303, _, _, _)) hg188_302 rfl rfl rfl (hs_al g0) ?_
                  refine hq_F.st (s' := (306, _, _, _)) hg188_303 rfl rfl rfl (hq_gf h1.1 sh_61 sk_11_37 (hq_ref h1.1 sh_61 (b := 64) rfl)) ?_
                  refine hq_F.st (s' := (307, _, _, _)) hg188_306 rfl rfl rfl rfl ?_
                  refine hq_F.st (s' := (308, _, _, _)) hg188_307 rfl rfl rfl (sy_iav h1.1 sh_64 (n := 4) (by decide) (by decide)) ?_
                  refine hq_F.call hg188_308 rfl rfl si_11_203 (by decide) (by decide) sz_186 (sy_argsV h1.1 sh_61 rfl rfl rfl (Nat.le_of_ble_eq_true rfl) rfl (Nat.le_of_ble_eq_true rfl) rfl (by decide)) (mn_la (d := d + 3) (off := 27) (s := 4) h1 hL1.1 ho (by decide) (hL1.2.1 4 (by omega)) (by show 27 + 21 + nt_c 4 NT ≤ 54; omega)) (fun r w' q => by rcases q with ⟨_, _, _, q, _⟩ | ⟨_, q, _⟩; rw [q.1.1, h1.1.1]; rw [q.1.1, h1.1.1]) ?_
                  rintro r308 w2 q
                  try dsimp only
                  rcases q with ⟨rfl, n2, f2, h2, F2, g2⟩ | ⟨rfl, h2, F2, q⟩
                  · obtain ⟨a, ha, ea, la⟩ := ls_look_in ho (by omega) n2 g2 f2
                    have ta : (Int32.ofNat a).toInt = (a : Int) := hn_t (by omega)
                    refine hq_F.st (s' := (316, _, _, _)) hg188_311 rfl rfl rfl (hs_if (ci_ne (by omega)) rfl) ?_
                    have hL2 := hL1.fr F2 (by decide) (by decide)
                    have hb9 := sy_r64 h2.1 (sb_99 (99 + a) (by omega) (by omega))
                    refine hq_F.st (s' := (317, _, _, _)) hg188_316 rfl rfl rfl (hs_al g0) ?_
                    refine hq_F.st (s' := (320, _, _, _)) hg188_317 rfl rfl rfl (hq_gf h2.1 sh_61 sk_11_188 (sy_v h2.1 (by decide) rfl)) ?_
                    rw [show gv w2 61 18 = Int32.ofNat a from by exact ea]
                    refine hq_F.st (s' := (321, _, _, _)) hg188_320 rfl rfl rfl rfl ?_
                    refine hq_F.st (s' := (322, _, _, _)) hg188_321 rfl rfl rfl (hs_al (hg_nr g0 (by decide))) ?_
                    refine hq_F.st (s' := (325, _, _, _)) hg188_322 rfl rfl rfl (hq_gf h2.1 sh_61 sk_11_37 (hq_ref h2.1 sh_61 (b := 64) rfl)) ?_
                    refine hq_F.st (s' := (327, _, _, _)) hg188_325 rfl rfl rfl rfl ?_
                    refine hq_F.st (s' := (328, _, _, _)) hg188_327 rfl rfl rfl (hs_iln (pi_get_set _ _ _)) ?_
                    refine hq_F.st (s' := (329, _, _, _)) hg188_328 rfl rfl rfl rfl ?_
                    refine hq_F.st (s' := (330, _, _, _)) hg188_329 rfl rfl rfl (sy_iav h2.1 sh_64 (n := 99 + a) (by rw [hn_k (n := a) hv_99]; exact hn_t (by omega)) (by omega)) ?_
                    rw [show gv w2 64 (99 + a) = A 7 a from (hL2.2.2.2.get (c := 7) (k := a) (by decide) (by show a < 6; omega))]
                    rw [show gv w2 64 (99 + a) = A 7 a from (hL2.2.2.2.get (c := 7) (k := a) (by decide) (by show a < 6; omega))] at hb9
                    by_cases b330 : ((A 7 a)).toInt ≤ 0
                    · skip
                      refine hq_F.st (s' := (339, _, _, _)) hg188_330 rfl rfl rfl (hs_if (ci_le (by omega)) rfl) ?_
                      refine hq_F.st (s' := (340, _, _, _)) hg188_339 rfl rfl rfl (hs_al (hg_nr g0 (by decide))) ?_
                      refine hq_F.call hg188_340 rfl rfl si_11_181 (by decide) (by decide) sz_176 (sy_argsV h2.1 sh_61 rfl rfl rfl (Nat.le_of_ble_eq_true rfl) rfl (Nat.le_of_ble_eq_true rfl) rfl (by decide)) (mt_adv (d := d + 3) h2 (by have := n2.1; omega)) (fun _ _ q => by rw [q.2.1.1.1, h2.1.1]) ?_
                      rintro r340 w3 ⟨rfl, h3, F3⟩
                      try dsimp only
                      have hL3 := hL2.fr F3 (by decide) (by decide)
                      refine hq_F.st (s' := (344, _, _, _)) hg188_343 rfl rfl rfl (hs_al (hg_nr g0 (by decide))) ?_
                      refine hq_F.st (s' := (346, _, _, _)) hg188_344 rfl rfl rfl rfl ?_
                      refine hq_F.st (s' := (347, _, _, _)) hg188_346 rfl rfl rfl (hs_al (hg_nr g0 (by decide))) ?_
                      refine hq_F.st (s' := (350, _, _, _)) hg188_347 rfl rfl rfl (hq_gf h3.1 sh_61 sk_11_37 (hq_ref h3.1 sh_61 (b := 64) rfl)) ?_
                      refine hq_F.st (s' := (351, _, _, _)) hg188_350 rfl rfl rfl rfl ?_
                      refine hq_F.st (s' := (352, _, _, _)) hg188_351 rfl rfl rfl (sy_iav h3.1 sh_64 (n := 4) (by decide) (by decide)) ?_
                      refine hq_F.call hg188_352 rfl rfl si_11_203 (by decide) (by decide) sz_186 (sy_argsV h3.1 sh_61 rfl rfl rfl (Nat.le_of_ble_eq_true rfl) rfl (Nat.le_of_ble_eq_true rfl) rfl (by decide)) (mn_la (d := d + 3) (off := 27) (s := 4) h3 hL3.1 ho (by decide) (hL3.2.1 4 (by omega)) (by show 27 + 21 + nt_c 4 NT ≤ 54; omega)) (fun r w' q => by rcases q with ⟨_, _, _, q, _⟩ | ⟨_, q, _⟩; rw [q.1.1, h3.1.1]; rw [q.1.1, h3.1.1]) ?_
                      rintro r352 w4 q
                      try dsimp only
                      rcases q with ⟨rfl, n4, f4, h4, F4, g4⟩ | ⟨rfl, h4, F4, q⟩
                      · obtain ⟨b, hb, eb, lb⟩ := ls_look_in ho (by omega) n4 g4 f4
                        have tb : (Int32.ofNat b).toInt = (b : Int) := hn_t (by omega)
                        refine hq_F.st (s' := (360, _, _, _)) hg188_355 rfl rfl rfl (hs_if (ci_ne (by omega)) rfl) ?_
                        have hL4 := hL3.fr F4 (by decide) (by decide)
                        refine hq_F.st (s' := (361, _, _, _)) hg188_360 rfl rfl rfl (hs_al (hg_nr g0 (by decide))) ?_
                        refine hq_F.st (s' := (364, _, _, _)) hg188_361 rfl rfl rfl (hq_gf h4.1 sh_61 sk_11_188 (sy_v h4.1 (by decide) rfl)) ?_
                        rw [show gv w4 61 18 = Int32.ofNat b from by exact eb]
                        refine hq_F.st (s' := (365, _, _, _)) hg188_364 rfl rfl rfl (hs_iln (pi_get_set _ _ _)) ?_
                        by_cases b365 : ¬ ((Int32.ofNat b)).toInt = ((Int32.ofNat a)).toInt
                        · skip
                          refine hq_F.st (s' := (374, _, _, _)) hg188_365 rfl rfl rfl (hs_ic (ci_ne (by omega)) rfl) ?_
                          refine hq_F.st (s' := (375, _, _, _)) hg188_374 rfl rfl rfl (hs_al (hg_nr g0 (by decide))) ?_
                          refine hq_F.st (s' := (378, _, _, _)) hg188_375 rfl rfl rfl (hq_gf h4.1 sh_61 sk_11_37 (hq_ref h4.1 sh_61 (b := 64) rfl)) ?_
                          refine hq_F.st (s' := (380, _, _, _)) hg188_378 rfl rfl rfl rfl ?_
                          refine hq_F.st (s' := (381, _, _, _)) hg188_380 rfl rfl rfl (hs_iln (pi_get_set _ _ _)) ?_
                          refine hq_F.st (s' := (382, _, _, _)) hg188_381 rfl rfl rfl rfl ?_
                          refine hq_F.st (s' := (383, _, _, _)) hg188_382 rfl rfl rfl (hs_al (hg_nr g0 (by decide))) ?_
                          refine hq_F.st (s' := (386, _, _, _)) hg188_383 rfl rfl rfl (hq_gf h4.1 sh_61 sk_11_188 (sy_v h4.1 (by decide) rfl)) ?_
                          rw [show gv w4 61 18 = Int32.ofNat b from by exact eb]
                          refine hq_F.st (s' := (387, _, _, _)) hg188_386 rfl rfl rfl rfl ?_
                          refine hq_F.st (s' := (388, _, _, _)) hg188_387 rfl rfl rfl rfl ?_
                          rw [hn_s]
                          have tb1 : (Int32.ofNat (b + 1)).toInt = ((b + 1 : Nat) : Int) := hn_t (by omega)
                          refine sy_isv hg188_388 h4.1 sh_64 (n := 99 + a) (by rw [hn_k (n := a) hv_99]; exact hn_t (by omega)) (by omega) (sy_sr (sn_99 _ (by omega) (by omega)) (by omega) (by omega)) (fun w5 hC5 hw5 => ?_)
                          have hT5 := h4.fr hC5 (wpF hw5) rfl
                          have hL5 := hL4.put (c0 := 7) (k0 := a) (by decide) (by show a < 6; omega) hw5
                          refine hq_F.st (s' := (390, _, _, _)) hg188_389 rfl rfl rfl (hs_al (hg_nr g0 (by decide))) ?_
                          refine hq_F.call hg188_390 rfl rfl si_11_181 (by decide) (by decide) sz_176 (sy_argsV hC5 sh_61 rfl rfl rfl (Nat.le_of_ble_eq_true rfl) rfl (Nat.le_of_ble_eq_true rfl) rfl (by decide)) (mt_adv (d := d + 3) hT5 (by have := n4.1; omega)) (fun _ _ q => by rw [q.2.1.1.1, hC5.1]) ?_
                          rintro r390 w6 ⟨rfl, h6, F6⟩
                          try dsimp only
                          refine hq_F.st (s' := (394, _, _, _)) hg188_393 rfl rfl rfl rfl ?_
                          refine hq_F.en hg188_394 rfl rfl ?_
                          exact ⟨h6.1, ((F1.cov (by decide)).tr ((F2.cov (by decide)).tr ((F3.cov (by decide)).tr (F4.cov (by decide))))).tr ((ml_w64 hw5 (by omega)).tr (F6.cov (by decide))), Or.inl ⟨rfl, (tq_nx tp B M (tq_nx tp B M (tq_nx tp B M t)), ld_u A 7 a (Int32.ofNat (b + 1)), nr, NT), by rw [ls_line_7 hk7]; show ls_b (ls_look 4 (tq_nx tp B M t) NT) _ = _; rw [la, ls_br]; show (if ¬ A 7 a = 0 then _ else _) = _; rw [if_neg (Decidable.not_not.mpr (sy_zz (by omega)))]; show ls_b (ls_look 4 (tq_nx tp B M (tq_nx tp B M t)) NT) _ = _; rw [lb, ls_br]; exact if_neg (by omega), h6, hL5.fr F6 (by decide) (by decide)⟩⟩
                        · skip
                          refine hq_F.st (s' := (368, _, _, _)) hg188_365 rfl rfl rfl (hs_icn (t := 374) (ci_nen (by omega)) rfl) ?_
                          refine hq_F.st (s' := (369, _, _, _)) hg188_368 rfl rfl rfl (hs_al (hg_nr g0 (by decide))) ?_
                          refine hq_F.st (s' := (370, _, _, _)) hg188_369 rfl rfl rfl rfl ?_
                          refine hq_F.call hg188_370 rfl rfl si_11_178 (by decide) (by decide) sz_177 (sy_argsV h4.1 sh_61 rfl rfl rfl (Nat.le_of_ble_eq_true rfl) rfl (Nat.le_of_ble_eq_true rfl) rfl (by decide)) (mt_bad h4 ((Int32.ofInt 3))) (fun _ _ q => by rw [q.2.1.1.1, h4.1.1]) ?_
                          rintro r370 w9 ⟨rfl, k1, k2, k3, k4⟩
                          try dsimp only
                          refine hq_F.en hg188_373 rfl rfl ?_
                          exact ⟨k1.1, ((F1.cov (by decide)).tr ((F2.cov (by decide)).tr ((F3.cov (by decide)).tr (F4.cov (by decide))))).tr (k2.cov (by decide)), Or.inr ⟨rfl, 3, (tq_nx tp B M (tq_nx tp B M t)).2.1, by rw [ls_line_7 hk7]; show ls_b (ls_look 4 (tq_nx tp B M t) NT) _ = _; rw [la, ls_br]; show (if ¬ A 7 a = 0 then _ else _) = _; rw [if_neg (Decidable.not_not.mpr (sy_zz (by omega)))]; show ls_b (ls_look 4 (tq_nx tp B M (tq_nx tp B M t)) NT) _ = _; rw [lb, ls_br]; exact if_pos (by omega), by rw [k3]; decide, k4⟩⟩
                      · skip
                        refine hq_F.st (s' := (358, _, _, _)) hg188_355 rfl rfl rfl (hs_ifn (t := 360) (ci_nen (by omega)) rfl) ?_
                        refine hq_F.st (s' := (359, _, _, _)) hg188_358 rfl rfl rfl rfl ?_
                        refine hq_F.en hg188_359 rfl rfl ?_
                        rcases q with ⟨q1, q2⟩ | ⟨q1, q2, q3⟩
                        · exact ⟨h4.1, (F1.cov (by decide)).tr ((F2.cov (by decide)).tr ((F3.cov (by decide)).tr (F4.cov (by decide)))), Or.inr ⟨rfl, 1, (tq_nx tp B M (tq_nx tp B M t)).2.1, by rw [ls_line_7 hk7]; show ls_b (ls_look 4 (tq_nx tp B M t) NT) _ = _; rw [la, ls_br]; show (if ¬ A 7 a = 0 then _ else _) = _; rw [if_neg (Decidable.not_not.mpr (sy_zz (by omega)))]; show ls_b (ls_look 4 (tq_nx tp B M (tq_nx tp B M t)) NT) _ = _; rw [ls_look_1 q1]; rfl, q2⟩⟩
                        · exact ⟨h4.1, (F1.cov (by decide)).tr ((F2.cov (by decide)).tr ((F3.cov (by decide)).tr (F4.cov (by decide)))), Or.inr ⟨rfl, 3, (tq_nx tp B M (tq_nx tp B M t)).2.1, by rw [ls_line_7 hk7]; show ls_b (ls_look 4 (tq_nx tp B M t) NT) _ = _; rw [la, ls_br]; show (if ¬ A 7 a = 0 then _ else _) = _; rw [if_neg (Decidable.not_not.mpr (sy_zz (by omega)))]; show ls_b (ls_look 4 (tq_nx tp B M (tq_nx tp B M t)) NT) _ = _; rw [ls_look_3 q1 q2]; rfl, q3⟩⟩
                    · skip
                      refine hq_F.st (s' := (333, _, _, _)) hg188_330 rfl rfl rfl (hs_ifn (t := 339) (ci_len (by omega)) rfl) ?_
                      refine hq_F.st (s' := (334, _, _, _)) hg188_333 rfl rfl rfl (hs_al (hg_nr g0 (by decide))) ?_
                      refine hq_F.st (s' := (335, _, _, _)) hg188_334 rfl rfl rfl rfl ?_
                      refine hq_F.call hg188_335 rfl rfl si_11_178 (by decide) (by decide) sz_177 (sy_argsV h2.1 sh_61 rfl rfl rfl (Nat.le_of_ble_eq_true rfl) rfl (Nat.le_of_ble_eq_true rfl) rfl (by decide)) (mt_bad h2 ((Int32.ofInt 3))) (fun _ _ q => by rw [q.2.1.1.1, h2.1.1]) ?_
                      rintro r335 w9 ⟨rfl, k1, k2, k3, k4⟩
                      try dsimp only
                      refine hq_F.en hg188_338 rfl rfl ?_
                      have hne : ¬ A 7 a = 0 := by
                        intro q
                        have z : (0 : Int32).toInt = 0 := by decide
                        rw [q, z] at b330
                        omega
                      exact ⟨k1.1, ((F1.cov (by decide)).tr (F2.cov (by decide))).tr (k2.cov (by decide)), Or.inr ⟨rfl, 3, (tq_nx tp B M t).2.1, by rw [ls_line_7 hk7]; show ls_b (ls_look 4 (tq_nx tp B M t) NT) _ = _; rw [la, ls_br]; exact if_pos hne, by rw [k3]; decide, k4⟩⟩
                  · skip
                    refine hq_F.st (s' := (314, _, _, _)) hg188_311 rfl rfl rfl (hs_ifn (t := 316) (ci_nen (by omega)) rfl) ?_
                    refine hq_F.st (s' := (315, _, _, _)) hg188_314 rfl rfl rfl rfl ?_
                    refine hq_F.en hg188_315 rfl rfl ?_
                    rcases q with ⟨q1, q2⟩ | ⟨q1, q2, q3⟩
                    · exact ⟨h2.1, (F1.cov (by decide)).tr (F2.cov (by decide)), Or.inr ⟨rfl, 1, (tq_nx tp B M t).2.1, by rw [ls_line_7 hk7]; show ls_b (ls_look 4 (tq_nx tp B M t) NT) _ = _; rw [ls_look_1 q1]; rfl, q2⟩⟩
                    · exact ⟨h2.1, (F1.cov (by decide)).tr (F2.cov (by decide)), Or.inr ⟨rfl, 3, (tq_nx tp B M t).2.1, by rw [ls_line_7 hk7]; show ls_b (ls_look 4 (tq_nx tp B M t) NT) _ = _; rw [ls_look_3 q1 q2]; rfl, q3⟩⟩
                · rw [decide_eq_false hk7, show tq_b false = (0 : Int32) from rfl]
                  refine hq_F.st (s' := (395, _, _, _)) hg188_292 rfl rfl rfl (hs_if (ci_eq (by omega)) rfl) ?_
                  refine hq_F.st (s' := (396, _, _, _)) hg188_395 rfl rfl rfl (hs_al g0) ?_
                  refine hq_F.st (s' := (399, _, _, _)) hg188_396 rfl rfl rfl rfl ?_
                  refine hq_F.call hg188_399 rfl rfl si_11_206 (by decide) (by decide) sz_178 (sy_argsV h.1 sh_61 rfl rfl rfl (Nat.le_of_ble_eq_true rfl) rfl (Nat.le_of_ble_eq_true rfl) rfl (by decide)) (ml_isW (k := 8) h (by decide) kwx_8) (fun _ _ q => by rw [q.1]) ?_
                  rintro r399 w ⟨rfl, rfl⟩
                  try dsimp only
                  by_cases hk8 : ls_k t = ((8 : Nat) : Int)
                  · rw [decide_eq_true hk8, show tq_b true = (1 : Int32) from rfl]
                    have h2t : 2 ≤ t.1 := by rw [ls_k2 (t := t) (by omega)]; omega
                    refine hq_F.st (s' := (411, _, _, _)) hg188_402 rfl rfl rfl (hs_if (ci_ne (by omega)) rfl) ?_
                    refine hq_F.st (s' := (412, _, _, _)) hg188_411 rfl rfl rfl (hs_al g0) ?_
                    refine hq_F.call hg188_412 rfl rfl si_11_181 (by decide) (by decide) sz_176 (sy_argsV h.1 sh_61 rfl rfl rfl (Nat.le_of_ble_eq_true rfl) rfl (Nat.le_of_ble_eq_true rfl) rfl (by decide)) (mt_adv (d := d + 3) h h2t) (fun _ _ q => by rw [q.2.1.1.1, h.1.1]) ?_
                    rintro r412 w1 ⟨rfl, h1, F1⟩
                    try dsimp only
                    have hL1 : MLx w1 A nr NT NT := hL.fr F1 (by decide) (by decide)
                    refine hq_F.st (s' := (416, _, _, _)) hg188_415 rfl rfl rfl (hs_al g0) ?_
                    refine hq_F.st (s' := (418, _, _, _)) hg188_416 rfl rfl rfl rfl ?_
                    refine hq_F.st (s' := (419, _, _, _)) hg188_418 rfl rfl rfl (hs_al g0) ?_
                    refine hq_F.st (s' := (422, _, _, _)) hg188_419 rfl rfl rfl (hq_gf h1.1 sh_61 sk_11_37 (hq_ref h1.1 sh_61 (b := 64) rfl)) ?_
                    refine hq_F.st (s' := (423, _, _, _)) hg188_422 rfl rfl rfl rfl ?_
                    refine hq_F.st (s' := (424, _, _, _)) hg188_423 rfl rfl rfl (sy_iav h1.1 sh_64 (n := 3) (by decide) (by decide)) ?_
                    refine hq_F.call hg188_424 rfl rfl si_11_220 (by decide) (by decide) sz_187 (sy_argsV h1.1 sh_61 rfl rfl rfl (Nat.le_of_ble_eq_true rfl) rfl (Nat.le_of_ble_eq_true rfl) rfl (by decide)) (mn_tk (d := d + 2) (off := 27) (s := 3) h1 hL1.1 ho (by decide) (hL1.2.1 3 (by omega)) (by show 27 + 15 + nt_c 3 NT ≤ 54; omega)) (fun r w' q => by rcases q with ⟨_, _, _, q, _⟩ | ⟨_, q, _⟩; rw [q.1.1, h1.1.1]; rw [q.1.1, h1.1.1]) ?_
                    rintro r424 w2 q
                    try dsimp only
                    rcases q with ⟨rfl, n2, f2, h2, F2, g2⟩ | ⟨rfl, h2, F2, q⟩
                    · obtain ⟨a, ha, ea, la⟩ := ls_look_in ho (by omega) n2 g2 f2
                      have ta : (Int32.ofNat a).toInt = (a : Int) := hn_t (by omega)
                      refine hq_F.st (s' := (432, _, _, _)) hg188_427 rfl rfl rfl (hs_if (ci_ne (by omega)) rfl) ?_
                      have hL2 := hL1.fr F2 (by decide) (by decide)
                      refine hq_F.st (s' := (433, _, _, _)) hg188_432 rfl rfl rfl (hs_al g0) ?_
                      refine hq_F.st (s' := (436, _, _, _)) hg188_433 rfl rfl rfl (hq_gf h2.1 sh_61 sk_11_188 (sy_v h2.1 (by decide) rfl)) ?_
                      rw [show gv w2 61 18 = Int32.ofNat a from by exact ea]
                      refine hq_F.st (s' := (437, _, _, _)) hg188_436 rfl rfl rfl rfl ?_
                      refine hq_F.st (s' := (438, _, _, _)) hg188_437 rfl rfl rfl (hs_al (hg_nr g0 (by decide))) ?_
                      refine hq_F.st (s' := (440, _, _, _)) hg188_438 rfl rfl rfl rfl ?_
                      refine hq_F.st (s' := (441, _, _, _)) hg188_440 rfl rfl rfl (hs_al (hg_nr g0 (by decide))) ?_
                      refine hq_F.st (s' := (444, _, _, _)) hg188_441 rfl rfl rfl (hq_gf h2.1 sh_61 sk_11_37 (hq_ref h2.1 sh_61 (b := 64) rfl)) ?_
                      refine hq_F.st (s' := (445, _, _, _)) hg188_444 rfl rfl rfl rfl ?_
                      refine hq_F.st (s' := (446, _, _, _)) hg188_445 rfl rfl rfl (sy_iav h2.1 sh_64 (n := 0) (by decide) (by decide)) ?_
                      refine hq_F.call hg188_446 rfl rfl si_11_203 (by decide) (by decide) sz_186 (sy_argsV h2.1 sh_61 rfl rfl rfl (Nat.le_of_ble_eq_true rfl) rfl (Nat.le_of_ble_eq_true rfl) rfl (by decide)) (mn_la (d := d + 3) (off := 27) (s := 0) h2 hL2.1 ho (by decide) (hL2.2.1 0 (by omega)) (by show 27 + 0 + nt_c 0 NT ≤ 54; omega)) (fun r w' q => by rcases q with ⟨_, _, _, q, _⟩ | ⟨_, q, _⟩; rw [q.1.1, h2.1.1]; rw [q.1.1, h2.1.1]) ?_
                      rintro r446 w3 q
                      try dsimp only
                      rcases q with ⟨rfl, n3, f3, h3, F3, g3⟩ | ⟨rfl, h3, F3, q⟩
                      · obtain ⟨b, hb, eb, lb⟩ := ls_look_in ho (by omega) n3 g3 f3
                        have tb : (Int32.ofNat b).toInt = (b : Int) := hn_t (by omega)
                        refine hq_F.st (s' := (454, _, _, _)) hg188_449 rfl rfl rfl (hs_if (ci_ne (by omega)) rfl) ?_
                        have hL3 := hL2.fr F3 (by decide) (by decide)
                        refine hq_F.st (s' := (455, _, _, _)) hg188_454 rfl rfl rfl (hs_al (hg_nr g0 (by decide))) ?_
                        refine hq_F.st (s' := (458, _, _, _)) hg188_455 rfl rfl rfl (hq_gf h3.1 sh_61 sk_11_37 (hq_ref h3.1 sh_61 (b := 64) rfl)) ?_
                        refine hq_F.st (s' := (460, _, _, _)) hg188_458 rfl rfl rfl rfl ?_
                        refine hq_F.st (s' := (461, _, _, _)) hg188_460 rfl rfl rfl (hs_al (hg_nr g0 (by decide))) ?_
                        refine hq_F.st (s' := (464, _, _, _)) hg188_461 rfl rfl rfl (hq_gf h3.1 sh_61 sk_11_188 (sy_v h3.1 (by decide) rfl)) ?_
                        rw [show gv w3 61 18 = Int32.ofNat b from by exact eb]
                        refine hq_F.st (s' := (465, _, _, _)) hg188_464 rfl rfl rfl rfl ?_
                        refine hq_F.st (s' := (466, _, _, _)) hg188_465 rfl rfl rfl (sy_iav h3.1 sh_64 (n := 105 + b) (by rw [hn_k (n := b) hv_105]; exact hn_t (by omega)) (by omega)) ?_
                        rw [show gv w3 64 (105 + b) = A 1 b from (hL3.2.2.2.get (c := 1) (k := b) (by decide) (by show b < 10; omega))]
                        refine hq_F.st (s' := (467, _, _, _)) hg188_466 rfl rfl rfl (hs_iln (pi_get_set _ _ _)) ?_
                        refine hq_F.call hg188_467 rfl rfl si_11_229 (by decide) (by decide) sz_168 (sy_argsS rfl rfl rfl (Nat.le_of_ble_eq_true rfl) (by decide) rfl (Nat.le_of_ble_eq_true rfl) (by decide)) (ml_bit (k := a)) (fun _ _ q => by rw [q.1]) ?_
                        rintro r467 w3 ⟨rfl, rfl⟩
                        try dsimp only
                        cases hbit : ls_bit (A 1 b) a
                        · rw [show tq_b false = (0 : Int32) from rfl]
                          refine hq_F.st (s' := (479, _, _, _)) hg188_470 rfl rfl rfl (hs_if (ci_eq (by omega)) rfl) ?_
                          refine hq_F.st (s' := (480, _, _, _)) hg188_479 rfl rfl rfl (hs_al (hg_nr g0 (by decide))) ?_
                          refine hq_F.st (s' := (483, _, _, _)) hg188_480 rfl rfl rfl (hq_gf h3.1 sh_61 sk_11_37 (hq_ref h3.1 sh_61 (b := 64) rfl)) ?_
                          refine hq_F.st (s' := (485, _, _, _)) hg188_483 rfl rfl rfl rfl ?_
                          refine hq_F.st (s' := (486, _, _, _)) hg188_485 rfl rfl rfl (hs_al (hg_nr g0 (by decide))) ?_
                          refine hq_F.st (s' := (489, _, _, _)) hg188_486 rfl rfl rfl (hq_gf h3.1 sh_61 sk_11_188 (sy_v h3.1 (by decide) rfl)) ?_
                          rw [show gv w3 61 18 = Int32.ofNat b from by exact eb]
                          refine hq_F.st (s' := (490, _, _, _)) hg188_489 rfl rfl rfl rfl ?_
                          refine hq_F.st (s' := (491, _, _, _)) hg188_490 rfl rfl rfl rfl ?_
                          refine hq_F.st (s' := (492, _, _, _)) hg188_491 rfl rfl rfl (sy_iav h3.1 sh_64 (n := 105 + b) (by rw [hn_k (n := b) hv_105]; exact hn_t (by omega)) (by omega)) ?_
                          rw [show gv w3 64 (105 + b) = A 1 b from (hL3.2.2.2.get (c := 1) (k := b) (by decide) (by show b < 10; omega))]
                          refine hq_F.st (s' := (493, _, _, _)) hg188_492 rfl rfl rfl rfl ?_
                          refine hq_F.st (s' := (494, _, _, _)) hg188_493 rfl rfl rfl (hs_iln (pi_get_set _ _ _)) ?_
                          refine hq_F.st (s' := (495, _, _, _)) hg188_494 rfl rfl rfl rfl ?_
                          refine hq_F.st (s' := (496, _, _, _)) hg188_495 rfl rfl rfl rfl ?_
                          refine sy_isv hg188_496 h3.1 sh_64 (n := 105 + b) (by rw [hn_k (n := b) hv_105]; exact hn_t (by omega)) (by omega) (sy_full (sn_105 _ (by omega) (by omega))) (fun w4 hC4 hw4 => ?_)
                          have hT4 := h3.fr hC4 (wpF hw4) rfl
                          have hL4 := hL3.put (c0 := 1) (k0 := b) (by decide) (by show b < 10; omega) hw4
                          refine hq_F.st (s' := (498, _, _, _)) hg188_497 rfl rfl rfl (hs_al (hg_nr g0 (by decide))) ?_
                          refine hq_F.call hg188_498 rfl rfl si_11_181 (by decide) (by decide) sz_176 (sy_argsV hC4 sh_61 rfl rfl rfl (Nat.le_of_ble_eq_true rfl) rfl (Nat.le_of_ble_eq_true rfl) rfl (by decide)) (mt_adv (d := d + 3) hT4 (by have := n3.1; omega)) (fun _ _ q => by rw [q.2.1.1.1, hC4.1]) ?_
                          rintro r498 w5 ⟨rfl, h5, F5⟩
                          try dsimp only
                          refine hq_F.st (s' := (502, _, _, _)) hg188_501 rfl rfl rfl rfl ?_
                          refine hq_F.en hg188_502 rfl rfl ?_
                          exact ⟨h5.1, ((F1.cov (by decide)).tr ((F2.cov (by decide)).tr (F3.cov (by decide)))).tr ((ml_w64 hw4 (by omega)).tr (F5.cov (by decide))), Or.inl ⟨rfl, (tq_nx tp B M (tq_nx tp B M (tq_nx tp B M t)), ld_u A 1 b (ls_or (A 1 b) a), nr, NT), by rw [ls_line_8 hk8]; show ls_b (ls_look 3 (tq_nx tp B M t) NT) _ = _; rw [la, ls_br]; show ls_b (ls_look 0 (tq_nx tp B M (tq_nx tp B M t)) NT) _ = _; rw [lb, ls_br]; exact if_neg (fun q => by rw [hbit] at q; cases q), h5, hL4.fr F5 (by decide) (by decide)⟩⟩
                        · rw [show tq_b true = (1 : Int32) from rfl]
                          refine hq_F.st (s' := (473, _, _, _)) hg188_470 rfl rfl rfl (hs_ifn (t := 479) (ci_eqn (by omega)) rfl) ?_
                          refine hq_F.st (s' := (474, _, _, _)) hg188_473 rfl rfl rfl (hs_al (hg_nr g0 (by decide))) ?_
                          refine hq_F.st (s' := (475, _, _, _)) hg188_474 rfl rfl rfl rfl ?_
                          refine hq_F.call hg188_475 rfl rfl si_11_178 (by decide) (by decide) sz_177 (sy_argsV h3.1 sh_61 rfl rfl rfl (Nat.le_of_ble_eq_true rfl) rfl (Nat.le_of_ble_eq_true rfl) rfl (by decide)) (mt_bad h3 ((Int32.ofInt 3))) (fun _ _ q => by rw [q.2.1.1.1, h3.1.1]) ?_
                          rintro r475 w9 ⟨rfl, k1, k2, k3, k4⟩
                          try dsimp only
                          refine hq_F.en hg188_478 rfl rfl ?_
                          exact ⟨k1.1, ((F1.cov (by decide)).tr ((F2.cov (by decide)).tr (F3.cov (by decide)))).tr (k2.cov (by decide)), Or.inr ⟨rfl, 3, (tq_nx tp B M (tq_nx tp B M t)).2.1, by rw [ls_line_8 hk8]; show ls_b (ls_look 3 (tq_nx tp B M t) NT) _ = _; rw [la, ls_br]; show ls_b (ls_look 0 (tq_nx tp B M (tq_nx tp B M t)) NT) _ = _; rw [lb, ls_br]; exact if_pos hbit, by rw [k3]; decide, k4⟩⟩
                      · skip
                        refine hq_F.st (s' := (452, _, _, _)) hg188_449 rfl rfl rfl (hs_ifn (t := 454) (ci_nen (by omega)) rfl) ?_
                        refine hq_F.st (s' := (453, _, _, _)) hg188_452 rfl rfl rfl rfl ?_
                        refine hq_F.en hg188_453 rfl rfl ?_
                        rcases q with ⟨q1, q2⟩ | ⟨q1, q2, q3⟩
                        · exact ⟨h3.1, (F1.cov (by decide)).tr ((F2.cov (by decide)).tr (F3.cov (by decide))), Or.inr ⟨rfl, 1, (tq_nx tp B M (tq_nx tp B M t)).2.1, by rw [ls_line_8 hk8]; show ls_b (ls_look 3 (tq_nx tp B M t) NT) _ = _; rw [la, ls_br]; show ls_b (ls_look 0 (tq_nx tp B M (tq_nx tp B M t)) NT) _ = _; rw [ls_look_1 q1]; rfl, q2⟩⟩
                        · exact ⟨h3.1, (F1.cov (by decide)).tr ((F2.cov (by decide)).tr (F3.cov (by decide))), Or.inr ⟨rfl, 3, (tq_nx tp B M (tq_nx tp B M t)).2.1, by rw [ls_line_8 hk8]; show ls_b (ls_look 3 (tq_nx tp B M t) NT) _ = _; rw [la, ls_br]; show ls_b (ls_look 0 (tq_nx tp B M (tq_nx tp B M t)) NT) _ = _; rw [ls_look_3 q1 q2]; rfl, q3⟩⟩
                    · skip
                      refine hq_F.st (s' := (430, _, _, _)) hg188_427 rfl rfl rfl (hs_ifn (t := 432) (ci_nen (by omega)) rfl) ?_
                      refine hq_F.st (s' := (431, _, _, _)) hg188_430 rfl rfl rfl rfl ?_
                      refine hq_F.en hg188_431 rfl rfl ?_
                      rcases q with ⟨q1, q2⟩ | ⟨q1, q2, q3⟩
                      · exact ⟨h2.1, (F1.cov (by decide)).tr (F2.cov (by decide)), Or.inr ⟨rfl, 1, (tq_nx tp B M t).2.1, by rw [ls_line_8 hk8]; show ls_b (ls_look 3 (tq_nx tp B M t) NT) _ = _; rw [ls_look_1 q1]; rfl, q2⟩⟩
                      · exact ⟨h2.1, (F1.cov (by decide)).tr (F2.cov (by decide)), Or.inr ⟨rfl, 3, (tq_nx tp B M t).2.1, by rw [ls_line_8 hk8]; show ls_b (ls_look 3 (tq_nx tp B M t) NT) _ = _; rw [ls_look_3 q1 q2]; rfl, q3⟩⟩
                  · rw [decide_eq_false hk8, show tq_b false = (0 : Int32) from rfl]
                    refine hq_F.st (s' := (405, _, _, _)) hg188_402 rfl rfl rfl (hs_ifn (t := 411) (ci_nen (by omega)) rfl) ?_
                    refine hq_F.st (s' := (406, _, _, _)) hg188_405 rfl rfl rfl (hs_al g0) ?_
                    refine hq_F.st (s' := (407, _, _, _)) hg188_406 rfl rfl rfl rfl ?_
                    refine hq_F.call hg188_407 rfl rfl si_11_178 (by decide) (by decide) sz_177 (sy_argsV h.1 sh_61 rfl rfl rfl (Nat.le_of_ble_eq_true rfl) rfl (Nat.le_of_ble_eq_true rfl) rfl (by decide)) (mt_bad h ((Int32.ofInt 1))) (fun _ _ q => by rw [q.2.1.1.1, h.1.1]) ?_
                    rintro r407 w9 ⟨rfl, k1, k2, k3, k4⟩
                    try dsimp only
                    refine hq_F.en hg188_410 rfl rfl ?_
                    exact ⟨k1.1, k2.cov (by decide), Or.inr ⟨rfl, 1, t.2.1, ls_line_9 (σ := (t, A, nr, NT)) (show ls_k t < 0 ∨ 8 < ls_k t by omega), by rw [k3]; decide, k4⟩⟩
