/-! ===== the DIARY in the model; by program ===== -/
theorem sk_11_406 : pi_look pi_fT 11 406 = some (11, 32, 1279) := rfl
theorem si_11_409 : pi_look pi_iT 11 409 = some (2, 267, 3, 1785) := rfl
theorem si_11_412 : pi_look pi_iT 11 412 = some (2, 266, 0, 1781) := rfl
def sm266 : pi_M := (11, 4, (some .boolean), false, mc_266)
def sm267 : pi_M := (11, 4, (some .boolean), false, mc_267)
set_option maxRecDepth 100000 in
theorem sz_266 : pi_mt[266]? = some (mn_266, prog_13_method_106_code, (11, 4, (some .boolean), false, mc_266)) := rfl
set_option maxRecDepth 100000 in
theorem sz_267 : pi_mt[267]? = some (mn_267, prog_13_method_107_code, (11, 4, (some .boolean), false, mc_267)) := rfl
theorem hj266_0 : pi_fetch mc_266 0 = some (.iconst 3, 1) := rfl
theorem hj266_1 : pi_fetch mc_266 1 = some (.aload_n 0, 1) := rfl
theorem hj266_2 : pi_fetch mc_266 2 = some (.getfield 406, 3) := rfl
theorem hj266_5 : pi_fetch mc_266 5 = some (.imul, 1) := rfl
theorem hj266_6 : pi_fetch mc_266 6 = some (.istore_n 1, 1) := rfl
theorem hj266_7 : pi_fetch mc_266 7 = some (.aload_n 0, 1) := rfl
theorem hj266_8 : pi_fetch mc_266 8 = some (.ldc2_w 112, 3) := rfl
theorem hj266_11 : pi_fetch mc_266 11 = some (.invokevirtual 206, 3) := rfl
theorem hj266_14 : pi_fetch mc_266 14 = some (.ifCond .eq 7, 3) := rfl
theorem hj266_17 : pi_fetch mc_266 17 = some (.iconst 5, 1) := rfl
theorem hj266_18 : pi_fetch mc_266 18 = some (.goto 34, 3) := rfl
theorem hj266_21 : pi_fetch mc_266 21 = some (.aload_n 0, 1) := rfl
theorem hj266_22 : pi_fetch mc_266 22 = some (.ldc2_w 114, 3) := rfl
theorem hj266_25 : pi_fetch mc_266 25 = some (.invokevirtual 206, 3) := rfl
theorem hj266_28 : pi_fetch mc_266 28 = some (.ifCond .eq 8, 3) := rfl
theorem hj266_31 : pi_fetch mc_266 31 = some (.bipush 6, 2) := rfl
theorem hj266_33 : pi_fetch mc_266 33 = some (.goto 19, 3) := rfl
theorem hj266_36 : pi_fetch mc_266 36 = some (.aload_n 0, 1) := rfl
theorem hj266_37 : pi_fetch mc_266 37 = some (.ldc2_w 116, 3) := rfl
theorem hj266_40 : pi_fetch mc_266 40 = some (.invokevirtual 206, 3) := rfl
theorem hj266_43 : pi_fetch mc_266 43 = some (.ifCond .eq 8, 3) := rfl
theorem hj266_46 : pi_fetch mc_266 46 = some (.bipush 7, 2) := rfl
theorem hj266_48 : pi_fetch mc_266 48 = some (.goto 4, 3) := rfl
theorem hj266_51 : pi_fetch mc_266 51 = some (.iconst (-1), 1) := rfl
theorem hj266_52 : pi_fetch mc_266 52 = some (.istore_n 2, 1) := rfl
theorem hj266_53 : pi_fetch mc_266 53 = some (.iload_n 2, 1) := rfl
theorem hj266_54 : pi_fetch mc_266 54 = some (.ifCond .lt 112, 3) := rfl
theorem hj266_57 : pi_fetch mc_266 57 = some (.aload_n 0, 1) := rfl
theorem hj266_58 : pi_fetch mc_266 58 = some (.getfield 406, 3) := rfl
theorem hj266_61 : pi_fetch mc_266 61 = some (.bipush 40, 2) := rfl
theorem hj266_63 : pi_fetch mc_266 63 = some (.if_icmp .ne 9, 3) := rfl
theorem hj266_66 : pi_fetch mc_266 66 = some (.aload_n 0, 1) := rfl
theorem hj266_67 : pi_fetch mc_266 67 = some (.iconst 4, 1) := rfl
theorem hj266_68 : pi_fetch mc_266 68 = some (.invokevirtual 178, 3) := rfl
theorem hj266_71 : pi_fetch mc_266 71 = some (.ireturn, 1) := rfl
theorem hj266_72 : pi_fetch mc_266 72 = some (.aload_n 0, 1) := rfl
theorem hj266_73 : pi_fetch mc_266 73 = some (.getfield 40, 3) := rfl
theorem hj266_76 : pi_fetch mc_266 76 = some (.iload_n 1, 1) := rfl
theorem hj266_77 : pi_fetch mc_266 77 = some (.iload_n 2, 1) := rfl
theorem hj266_78 : pi_fetch mc_266 78 = some (.iastore, 1) := rfl
theorem hj266_79 : pi_fetch mc_266 79 = some (.aload_n 0, 1) := rfl
theorem hj266_80 : pi_fetch mc_266 80 = some (.invokevirtual 181, 3) := rfl
theorem hj266_83 : pi_fetch mc_266 83 = some (.iload_n 2, 1) := rfl
theorem hj266_84 : pi_fetch mc_266 84 = some (.bipush 7, 2) := rfl
theorem hj266_86 : pi_fetch mc_266 86 = some (.if_icmp .ne 29, 3) := rfl
theorem hj266_89 : pi_fetch mc_266 89 = some (.aload_n 0, 1) := rfl
theorem hj266_90 : pi_fetch mc_266 90 = some (.iconst 1, 1) := rfl
theorem hj266_91 : pi_fetch mc_266 91 = some (.bipush 60, 2) := rfl
theorem hj266_93 : pi_fetch mc_266 93 = some (.invokevirtual 191, 3) := rfl
theorem hj266_96 : pi_fetch mc_266 96 = some (.ifCond .ne 5, 3) := rfl
theorem hj266_99 : pi_fetch mc_266 99 = some (.iconst 0, 1) := rfl
theorem hj266_100 : pi_fetch mc_266 100 = some (.ireturn, 1) := rfl
theorem hj266_101 : pi_fetch mc_266 101 = some (.aload_n 0, 1) := rfl
theorem hj266_102 : pi_fetch mc_266 102 = some (.getfield 40, 3) := rfl
theorem hj266_105 : pi_fetch mc_266 105 = some (.iload_n 1, 1) := rfl
theorem hj266_106 : pi_fetch mc_266 106 = some (.iconst 1, 1) := rfl
theorem hj266_107 : pi_fetch mc_266 107 = some (.iadd, 1) := rfl
theorem hj266_108 : pi_fetch mc_266 108 = some (.aload_n 0, 1) := rfl
theorem hj266_109 : pi_fetch mc_266 109 = some (.getfield 188, 3) := rfl
theorem hj266_112 : pi_fetch mc_266 112 = some (.iastore, 1) := rfl
theorem hj266_113 : pi_fetch mc_266 113 = some (.iconst 1, 1) := rfl
theorem hj266_114 : pi_fetch mc_266 114 = some (.ireturn, 1) := rfl
theorem hj266_115 : pi_fetch mc_266 115 = some (.iload_n 2, 1) := rfl
theorem hj266_116 : pi_fetch mc_266 116 = some (.iconst 5, 1) := rfl
theorem hj266_117 : pi_fetch mc_266 117 = some (.if_icmp .ne 23, 3) := rfl
theorem hj266_120 : pi_fetch mc_266 120 = some (.aload_n 0, 1) := rfl
theorem hj266_121 : pi_fetch mc_266 121 = some (.iload_n 1, 1) := rfl
theorem hj266_122 : pi_fetch mc_266 122 = some (.iconst 1, 1) := rfl
theorem hj266_123 : pi_fetch mc_266 123 = some (.iadd, 1) := rfl
theorem hj266_124 : pi_fetch mc_266 124 = some (.bipush 15, 2) := rfl
theorem hj266_126 : pi_fetch mc_266 126 = some (.aload_n 0, 1) := rfl
theorem hj266_127 : pi_fetch mc_266 127 = some (.getfield 33, 3) := rfl
theorem hj266_130 : pi_fetch mc_266 130 = some (.iconst 3, 1) := rfl
theorem hj266_131 : pi_fetch mc_266 131 = some (.iaload, 1) := rfl
theorem hj266_132 : pi_fetch mc_266 132 = some (.invokevirtual 409, 3) := rfl
theorem hj266_135 : pi_fetch mc_266 135 = some (.ifCond .ne 5, 3) := rfl
theorem hj266_138 : pi_fetch mc_266 138 = some (.iconst 0, 1) := rfl
theorem hj266_139 : pi_fetch mc_266 139 = some (.ireturn, 1) := rfl
theorem hj266_140 : pi_fetch mc_266 140 = some (.aload_n 0, 1) := rfl
theorem hj266_141 : pi_fetch mc_266 141 = some (.iload_n 2, 1) := rfl
theorem hj266_142 : pi_fetch mc_266 142 = some (.iconst 5, 1) := rfl
theorem hj266_143 : pi_fetch mc_266 143 = some (.if_icmp .ne 9, 3) := rfl
theorem hj266_146 : pi_fetch mc_266 146 = some (.iload_n 1, 1) := rfl
theorem hj266_147 : pi_fetch mc_266 147 = some (.iconst 2, 1) := rfl
theorem hj266_148 : pi_fetch mc_266 148 = some (.iadd, 1) := rfl
theorem hj266_149 : pi_fetch mc_266 149 = some (.goto 6, 3) := rfl
theorem hj266_152 : pi_fetch mc_266 152 = some (.iload_n 1, 1) := rfl
theorem hj266_153 : pi_fetch mc_266 153 = some (.iconst 1, 1) := rfl
theorem hj266_154 : pi_fetch mc_266 154 = some (.iadd, 1) := rfl
theorem hj266_155 : pi_fetch mc_266 155 = some (.iconst 0, 1) := rfl
theorem hj266_156 : pi_fetch mc_266 156 = some (.aload_n 0, 1) := rfl
theorem hj266_157 : pi_fetch mc_266 157 = some (.getfield 33, 3) := rfl
theorem hj266_160 : pi_fetch mc_266 160 = some (.iconst 0, 1) := rfl
theorem hj266_161 : pi_fetch mc_266 161 = some (.iaload, 1) := rfl
theorem hj266_162 : pi_fetch mc_266 162 = some (.invokevirtual 409, 3) := rfl
theorem hj266_165 : pi_fetch mc_266 165 = some (.ireturn, 1) := rfl
theorem hj266_166 : pi_fetch mc_266 166 = some (.aload_n 0, 1) := rfl
theorem hj266_167 : pi_fetch mc_266 167 = some (.bipush 21, 2) := rfl
theorem hj266_169 : pi_fetch mc_266 169 = some (.aload_n 0, 1) := rfl
theorem hj266_170 : pi_fetch mc_266 170 = some (.getfield 33, 3) := rfl
theorem hj266_173 : pi_fetch mc_266 173 = some (.iconst 4, 1) := rfl
theorem hj266_174 : pi_fetch mc_266 174 = some (.iaload, 1) := rfl
theorem hj266_175 : pi_fetch mc_266 175 = some (.invokevirtual 203, 3) := rfl
theorem hj266_178 : pi_fetch mc_266 178 = some (.ifCond .ne 5, 3) := rfl
theorem hj266_181 : pi_fetch mc_266 181 = some (.iconst 0, 1) := rfl
theorem hj266_182 : pi_fetch mc_266 182 = some (.ireturn, 1) := rfl
theorem hj266_183 : pi_fetch mc_266 183 = some (.aload_n 0, 1) := rfl
theorem hj266_184 : pi_fetch mc_266 184 = some (.getfield 406, 3) := rfl
theorem hj266_187 : pi_fetch mc_266 187 = some (.bipush 40, 2) := rfl
theorem hj266_189 : pi_fetch mc_266 189 = some (.if_icmp .ne 9, 3) := rfl
theorem hj266_192 : pi_fetch mc_266 192 = some (.aload_n 0, 1) := rfl
theorem hj266_193 : pi_fetch mc_266 193 = some (.iconst 4, 1) := rfl
theorem hj266_194 : pi_fetch mc_266 194 = some (.invokevirtual 178, 3) := rfl
theorem hj266_197 : pi_fetch mc_266 197 = some (.ireturn, 1) := rfl
theorem hj266_198 : pi_fetch mc_266 198 = some (.aload_n 0, 1) := rfl
theorem hj266_199 : pi_fetch mc_266 199 = some (.getfield 40, 3) := rfl
theorem hj266_202 : pi_fetch mc_266 202 = some (.iload_n 1, 1) := rfl
theorem hj266_203 : pi_fetch mc_266 203 = some (.iconst 1, 1) := rfl
theorem hj266_204 : pi_fetch mc_266 204 = some (.iadd, 1) := rfl
theorem hj266_205 : pi_fetch mc_266 205 = some (.aload_n 0, 1) := rfl
theorem hj266_206 : pi_fetch mc_266 206 = some (.getfield 188, 3) := rfl
theorem hj266_209 : pi_fetch mc_266 209 = some (.iastore, 1) := rfl
theorem hj266_210 : pi_fetch mc_266 210 = some (.aload_n 0, 1) := rfl
theorem hj266_211 : pi_fetch mc_266 211 = some (.invokevirtual 181, 3) := rfl
theorem hj266_214 : pi_fetch mc_266 214 = some (.aload_n 0, 1) := rfl
theorem hj266_215 : pi_fetch mc_266 215 = some (.ldc2_w 102, 3) := rfl
theorem hj266_218 : pi_fetch mc_266 218 = some (.invokevirtual 206, 3) := rfl
theorem hj266_221 : pi_fetch mc_266 221 = some (.ifCond .eq 7, 3) := rfl
theorem hj266_224 : pi_fetch mc_266 224 = some (.iconst 0, 1) := rfl
theorem hj266_225 : pi_fetch mc_266 225 = some (.goto 60, 3) := rfl
theorem hj266_228 : pi_fetch mc_266 228 = some (.aload_n 0, 1) := rfl
theorem hj266_229 : pi_fetch mc_266 229 = some (.ldc2_w 104, 3) := rfl
theorem hj266_232 : pi_fetch mc_266 232 = some (.invokevirtual 206, 3) := rfl
theorem hj266_235 : pi_fetch mc_266 235 = some (.ifCond .eq 7, 3) := rfl
theorem hj266_238 : pi_fetch mc_266 238 = some (.iconst 1, 1) := rfl
theorem hj266_239 : pi_fetch mc_266 239 = some (.goto 46, 3) := rfl
theorem hj266_242 : pi_fetch mc_266 242 = some (.aload_n 0, 1) := rfl
theorem hj266_243 : pi_fetch mc_266 243 = some (.ldc2_w 106, 3) := rfl
theorem hj266_246 : pi_fetch mc_266 246 = some (.invokevirtual 206, 3) := rfl
theorem hj266_249 : pi_fetch mc_266 249 = some (.ifCond .eq 7, 3) := rfl
theorem hj266_252 : pi_fetch mc_266 252 = some (.iconst 2, 1) := rfl
theorem hj266_253 : pi_fetch mc_266 253 = some (.goto 32, 3) := rfl
theorem hj266_256 : pi_fetch mc_266 256 = some (.aload_n 0, 1) := rfl
theorem hj266_257 : pi_fetch mc_266 257 = some (.ldc2_w 108, 3) := rfl
theorem hj266_260 : pi_fetch mc_266 260 = some (.invokevirtual 206, 3) := rfl
theorem hj266_263 : pi_fetch mc_266 263 = some (.ifCond .eq 7, 3) := rfl
theorem hj266_266 : pi_fetch mc_266 266 = some (.iconst 3, 1) := rfl
theorem hj266_267 : pi_fetch mc_266 267 = some (.goto 18, 3) := rfl
theorem hj266_270 : pi_fetch mc_266 270 = some (.aload_n 0, 1) := rfl
theorem hj266_271 : pi_fetch mc_266 271 = some (.ldc2_w 110, 3) := rfl
theorem hj266_274 : pi_fetch mc_266 274 = some (.invokevirtual 206, 3) := rfl
theorem hj266_277 : pi_fetch mc_266 277 = some (.ifCond .eq 7, 3) := rfl
theorem hj266_280 : pi_fetch mc_266 280 = some (.iconst 4, 1) := rfl
theorem hj266_281 : pi_fetch mc_266 281 = some (.goto 4, 3) := rfl
theorem hj266_284 : pi_fetch mc_266 284 = some (.iconst (-1), 1) := rfl
theorem hj266_285 : pi_fetch mc_266 285 = some (.istore_n 3, 1) := rfl
theorem hj266_286 : pi_fetch mc_266 286 = some (.iload_n 3, 1) := rfl
theorem hj266_287 : pi_fetch mc_266 287 = some (.ifCond .ge 9, 3) := rfl
theorem hj266_290 : pi_fetch mc_266 290 = some (.aload_n 0, 1) := rfl
theorem hj266_291 : pi_fetch mc_266 291 = some (.iconst 1, 1) := rfl
theorem hj266_292 : pi_fetch mc_266 292 = some (.invokevirtual 178, 3) := rfl
theorem hj266_295 : pi_fetch mc_266 295 = some (.ireturn, 1) := rfl
theorem hj266_296 : pi_fetch mc_266 296 = some (.aload_n 0, 1) := rfl
theorem hj266_297 : pi_fetch mc_266 297 = some (.getfield 40, 3) := rfl
theorem hj266_300 : pi_fetch mc_266 300 = some (.iload_n 1, 1) := rfl
theorem hj266_301 : pi_fetch mc_266 301 = some (.iload_n 3, 1) := rfl
theorem hj266_302 : pi_fetch mc_266 302 = some (.iastore, 1) := rfl
theorem hj266_303 : pi_fetch mc_266 303 = some (.aload_n 0, 1) := rfl
theorem hj266_304 : pi_fetch mc_266 304 = some (.invokevirtual 181, 3) := rfl
theorem hj266_307 : pi_fetch mc_266 307 = some (.iload_n 3, 1) := rfl
theorem hj266_308 : pi_fetch mc_266 308 = some (.iconst 1, 1) := rfl
theorem hj266_309 : pi_fetch mc_266 309 = some (.if_icmp .gt 37, 3) := rfl
theorem hj266_312 : pi_fetch mc_266 312 = some (.aload_n 0, 1) := rfl
theorem hj266_313 : pi_fetch mc_266 313 = some (.iload_n 1, 1) := rfl
theorem hj266_314 : pi_fetch mc_266 314 = some (.iconst 2, 1) := rfl
theorem hj266_315 : pi_fetch mc_266 315 = some (.iadd, 1) := rfl
theorem hj266_316 : pi_fetch mc_266 316 = some (.iload_n 3, 1) := rfl
theorem hj266_317 : pi_fetch mc_266 317 = some (.ifCond .ne 7, 3) := rfl
theorem hj266_320 : pi_fetch mc_266 320 = some (.iconst 0, 1) := rfl
theorem hj266_321 : pi_fetch mc_266 321 = some (.goto 5, 3) := rfl
theorem hj266_324 : pi_fetch mc_266 324 = some (.bipush 10, 2) := rfl
theorem hj266_326 : pi_fetch mc_266 326 = some (.aload_n 0, 1) := rfl
theorem hj266_327 : pi_fetch mc_266 327 = some (.getfield 33, 3) := rfl
theorem hj266_330 : pi_fetch mc_266 330 = some (.iload_n 3, 1) := rfl
theorem hj266_331 : pi_fetch mc_266 331 = some (.ifCond .ne 7, 3) := rfl
theorem hj266_334 : pi_fetch mc_266 334 = some (.iconst 0, 1) := rfl
theorem hj266_335 : pi_fetch mc_266 335 = some (.goto 4, 3) := rfl
theorem hj266_338 : pi_fetch mc_266 338 = some (.iconst 2, 1) := rfl
theorem hj266_339 : pi_fetch mc_266 339 = some (.iaload, 1) := rfl
theorem hj266_340 : pi_fetch mc_266 340 = some (.invokevirtual 409, 3) := rfl
theorem hj266_343 : pi_fetch mc_266 343 = some (.ifCond .eq 7, 3) := rfl
theorem hj266_346 : pi_fetch mc_266 346 = some (.iconst 1, 1) := rfl
theorem hj266_347 : pi_fetch mc_266 347 = some (.goto 4, 3) := rfl
theorem hj266_350 : pi_fetch mc_266 350 = some (.iconst 0, 1) := rfl
theorem hj266_351 : pi_fetch mc_266 351 = some (.ireturn, 1) := rfl
theorem hj267_0 : pi_fetch mc_267 0 = some (.aload_n 0, 1) := rfl
theorem hj267_1 : pi_fetch mc_267 1 = some (.iload_n 2, 1) := rfl
theorem hj267_2 : pi_fetch mc_267 2 = some (.iload_n 3, 1) := rfl
theorem hj267_3 : pi_fetch mc_267 3 = some (.invokevirtual 220, 3) := rfl
theorem hj267_6 : pi_fetch mc_267 6 = some (.ifCond .ne 5, 3) := rfl
theorem hj267_9 : pi_fetch mc_267 9 = some (.iconst 0, 1) := rfl
theorem hj267_10 : pi_fetch mc_267 10 = some (.ireturn, 1) := rfl
theorem hj267_11 : pi_fetch mc_267 11 = some (.aload_n 0, 1) := rfl
theorem hj267_12 : pi_fetch mc_267 12 = some (.getfield 40, 3) := rfl
theorem hj267_15 : pi_fetch mc_267 15 = some (.iload_n 1, 1) := rfl
theorem hj267_16 : pi_fetch mc_267 16 = some (.aload_n 0, 1) := rfl
theorem hj267_17 : pi_fetch mc_267 17 = some (.getfield 188, 3) := rfl
theorem hj267_20 : pi_fetch mc_267 20 = some (.iastore, 1) := rfl
theorem hj267_21 : pi_fetch mc_267 21 = some (.iconst 1, 1) := rfl
theorem hj267_22 : pi_fetch mc_267 22 = some (.ireturn, 1) := rfl
theorem kwx_9 : (1735353715 : Int64) = Int64.ofNat (tq_c256 (tq_kw.getD 9 [])) := by decide +kernel
theorem kwx_10 : (1685022067 : Int64) = Int64.ofNat (tq_c256 (tq_kw.getD 10 [])) := by decide +kernel
theorem kwx_11 : (512801993331 : Int64) = Int64.ofNat (tq_c256 (tq_kw.getD 11 [])) := by decide +kernel
theorem kwx_12 : (422541682035 : Int64) = Int64.ofNat (tq_c256 (tq_kw.getD 12 [])) := by decide +kernel
theorem kwx_13 : (112585964089971 : Int64) = Int64.ofNat (tq_c256 (tq_kw.getD 13 [])) := by decide +kernel
theorem kwx_14 : (482906174579 : Int64) = Int64.ofNat (tq_c256 (tq_kw.getD 14 [])) := by decide +kernel
theorem kwx_15 : (491260571251 : Int64) = Int64.ofNat (tq_c256 (tq_kw.getD 15 [])) := by decide +kernel
theorem kwx_16 : (6578553 : Int64) = Int64.ofNat (tq_c256 (tq_kw.getD 16 [])) := by decide +kernel
theorem hq_both {d : Nat} {mi : pi_M} {Q Q' : Option Value → pi_W → Prop} {s : pi_S} (h : hq_F d mi Q s) (h' : hq_F d mi Q' s) : hq_F d mi (fun r w => Q r w ∧ Q' r w) s := by
  obtain ⟨n, r, w, h1, h2⟩ := h
  obtain ⟨n', r', w', h3, h4⟩ := h'
  have e1 := pi_more (k := n + n') h1 (by omega)
  have e2 := pi_more (k := n + n') h3 (by omega)
  rw [e1] at e2
  cases e2
  exact ⟨n, r, w, h1, h2, h4⟩
/-- the NAMES of the LAND now, in the model -/
def DM (w : pi_W) (NT : List nt_E) : Prop := NM w 0 NT ∧ ∀ s, s = 0 ∨ s = 2 ∨ s = 3 ∨ s = 4 → (gv w 63 s).toInt = (nt_c s NT : Int)
theorem DM.fr {w w' : pi_W} {NT : List nt_E} {N : af_M} (h : DM w NT) (hF : af_Fr N w w') (h1 : ∀ e ∈ N, e.1 ≠ 66) (h2 : ∀ e ∈ N, e.1 ≠ 63) : DM w' NT := ⟨fun e he => (gl_eq (hq_cell hF h1)).trans (h.1 e he), fun s hs => by rw [gv_eq (hq_cell hF h2)]; exact h.2 s hs⟩
theorem DM.of {w : pi_W} {A : ld_A} {nr : Nat} {NT : List nt_E} (h : MS w 63 0 66 0 A nr NT) : DM w NT := ⟨fun e he => by rw [Nat.add_assoc]; exact h.1 e he, fun s hs => by have := h.2.1 s hs; rw [Nat.zero_add] at this; exact this⟩
def dm_N : af_M := [(61, 4, 5), (61, 11, 15), (61, 17, 19), (65, 0, 135)]
def dm_M : af_M := [(61, 4, 5), (61, 11, 19), (65, 0, 135)]
def dm_P (tp : Nat → Nat) (B M : Nat) (F : dy_R) (w : pi_W) (r : Option Value) (w' : pi_W) : Prop := af_Conf aw_Sh w' ∧ af_Fr dm_M w w' ∧ ((r = some (.int 1) ∧ af_Fr dm_N w w' ∧ ∃ t, F = .inr t ∧ MT tp B M w' t) ∨ (r = some (.int 0) ∧ ∃ k p, F = .inl (k, p) ∧ FM w' k p))
theorem dm_w {w w' : pi_W} {j : Nat} {v : Value} (hw : wr1 w 65 j v w') (hj : j < 135) : af_Fr [(65, 0, 135)] w w' := hq_fr1 hw ⟨Nat.zero_le _, hj⟩
theorem hn_2 {c : Nat} : Int32.ofNat c + Int32.ofInt 2 = Int32.ofNat (c + 2) := by
  rw [show Int32.ofInt 2 = Int32.ofNat 2 by decide, hn_a]
theorem dm_puts {d B M so j : Nat} {tp : Nat → Nat} {NT : List nt_E} {w : pi_W} {t : tq_T} {x z : Int32} (h : MT tp B M w t) (hD : DM w NT) (ho : nt_ok NT) (hso : nt_c so NT ≤ 10) (hx : x = Int32.ofNat (0 + nt_b so)) (hz : z.toInt = (nt_c so NT : Int)) (hbn : 0 + nt_b so + nt_c so NT ≤ 54) (hj : j < 135) : hq_F (d + 3) sm267 (dm_P tp B M (dy_nm tp B M so NT t) w) (0, lv_args 0 [.ref 61, .int (Int32.ofNat j), .int x, .int z], [], w) := by
  have g0 : pi_get (lv_args 0 [.ref 61, .int (Int32.ofNat j), .int x, .int z]) 0 = some (.ref 61) := rfl
  have g1 : pi_get (lv_args 0 [.ref 61, .int (Int32.ofNat j), .int x, .int z]) 1 = some (.int (Int32.ofNat j)) := rfl
  have g2 : pi_get (lv_args 0 [.ref 61, .int (Int32.ofNat j), .int x, .int z]) 2 = some (.int x) := rfl
  have g3 : pi_get (lv_args 0 [.ref 61, .int (Int32.ofNat j), .int x, .int z]) 3 = some (.int z) := rfl
  have kc0 : ((0 : Int32)).toInt = 0 := by decide
  have kc1 : ((1 : Int32)).toInt = 1 := by decide
  have kc2 : ((Int32.ofInt 0)).toInt = 0 := by decide
  have kc3 : ((Int32.ofInt 1)).toInt = 1 := by decide
  have kz := sy_z0
  refine hq_F.st (s' := (1, _, _, _)) hj267_0 rfl rfl rfl (hs_al g0) ?_
  refine hq_F.st (s' := (2, _, _, _)) hj267_1 rfl rfl rfl (hs_iln g2) ?_
  refine hq_F.st (s' := (3, _, _, _)) hj267_2 rfl rfl rfl (hs_iln g3) ?_
  refine hq_F.call hj267_3 rfl rfl si_11_220 (by decide) (by decide) sz_187 (sy_argsV h.1 sh_61 rfl rfl rfl (Nat.le_of_ble_eq_true rfl) rfl (Nat.le_of_ble_eq_true rfl) rfl (by decide)) (mn_tk (d := d) (off := 0) (s := so) h hD.1 ho hx hz hbn) (fun r w' q => by rcases q with ⟨_, _, _, q, _⟩ | ⟨_, q, _⟩; rw [q.1.1, h.1.1]; rw [q.1.1, h.1.1]) ?_
  rintro r3 w2 q
  try dsimp only
  rcases q with ⟨rfl, n2, f2, h2, F2, g2⟩ | ⟨rfl, h2, F2, q⟩
  · obtain ⟨b, hb, eb, lb⟩ := ls_look_in ho hso n2 g2 f2
    refine hq_F.st (s' := (11, _, _, _)) hj267_6 rfl rfl rfl (hs_if (ci_ne (by omega)) rfl) ?_
    refine hq_F.st (s' := (12, _, _, _)) hj267_11 rfl rfl rfl (hs_al g0) ?_
    refine hq_F.st (s' := (15, _, _, _)) hj267_12 rfl rfl rfl (hq_gf h2.1 sh_61 sk_11_40 (hq_ref h2.1 sh_61 (b := 65) rfl)) ?_
    refine hq_F.st (s' := (16, _, _, _)) hj267_15 rfl rfl rfl (hs_iln g1) ?_
    refine hq_F.st (s' := (17, _, _, _)) hj267_16 rfl rfl rfl (hs_al g0) ?_
    refine hq_F.st (s' := (20, _, _, _)) hj267_17 rfl rfl rfl (hq_gf h2.1 sh_61 sk_11_188 (sy_v h2.1 (by decide) rfl)) ?_
    refine sy_isv hj267_20 h2.1 sh_65 (n := j) (hn_t (by omega)) hj (sy_full (sb_65 _ hj)) (fun w3 hC3 hw3 => ?_)
    refine hq_F.st (s' := (22, _, _, _)) hj267_21 rfl rfl rfl rfl ?_
    refine hq_F.en hj267_22 rfl rfl ?_
    exact ⟨hC3, (F2.cov (by decide)).tr ((dm_w hw3 hj).cov (by decide)), Or.inl ⟨rfl, (F2.cov (by decide)).tr ((dm_w hw3 hj).cov (by decide)), tq_nx tp B M t, by unfold dy_nm; rw [lb]; rfl, h2.fr hC3 (dm_w hw3 hj) rfl⟩⟩
  · skip
    refine hq_F.st (s' := (9, _, _, _)) hj267_6 rfl rfl rfl (hs_ifn (t := 11) (ci_nen (by omega)) rfl) ?_
    refine hq_F.st (s' := (10, _, _, _)) hj267_9 rfl rfl rfl rfl ?_
    refine hq_F.en hj267_10 rfl rfl ?_
    rcases q with ⟨q1, q2⟩ | ⟨q1, q2, q3⟩
    · exact ⟨h2.1, F2.cov (by decide), Or.inr ⟨rfl, 1, t.2.1, by unfold dy_nm; rw [ls_look_1 q1]; rfl, q2⟩⟩
    · exact ⟨h2.1, F2.cov (by decide), Or.inr ⟨rfl, 3, t.2.1, by unfold dy_nm; rw [ls_look_3 q1 q2]; rfl, q3⟩⟩
theorem dy_nn {t : tq_T} (h : 0 ≤ ls_k t) : ¬ ls_nm t = true := by
  intro q
  have q := of_decide_eq_true q
  unfold ls_k at h
  rw [if_pos q.1, q.2] at h
  exact absurd h (by decide)
theorem dm_line {d B M n : Nat} {tp : Nat → Nat} {NT : List nt_E} {w : pi_W} {t : tq_T} (h : MT tp B M w t) (hD : DM w NT) (ho : nt_ok NT) (hcs : nt_cs NT) (hl : gv w 61 32 = Int32.ofNat n) (hn : n ≤ 40) : hq_F (d + 4) sm266 (dm_P tp B M (dy_line tp B M NT n t) w) (0, lv_args 0 [.ref 61], [], w) := by
  obtain ⟨m0, m2, m3, m4⟩ := hcs
  have g0 : pi_get (lv_args 0 [.ref 61]) 0 = some (.ref 61) := rfl
  have kc0 : (((Int8.ofInt 10).toInt32)).toInt = 10 := by decide
  have kc1 : (((Int8.ofInt 15).toInt32)).toInt = 15 := by decide
  have kc2 : (((Int8.ofInt 21).toInt32)).toInt = 21 := by decide
  have kc3 : (((Int8.ofInt 40).toInt32)).toInt = 40 := by decide
  have kc4 : (((Int8.ofInt 6).toInt32)).toInt = 6 := by decide
  have kc5 : (((Int8.ofInt 60).toInt32)).toInt = 60 := by decide
  have kc6 : (((Int8.ofInt 7).toInt32)).toInt = 7 := by decide
  have kc7 : ((0 : Int32)).toInt = 0 := by decide
  have kc8 : ((1 : Int32)).toInt = 1 := by decide
  have kc9 : ((Int32.ofInt (-1))).toInt = (-1) := by decide
  have kc10 : ((Int32.ofInt 0)).toInt = 0 := by decide
  have kc11 : ((Int32.ofInt 1)).toInt = 1 := by decide
  have kc12 : ((Int32.ofInt 2)).toInt = 2 := by decide
  have kc13 : ((Int32.ofInt 3)).toInt = 3 := by decide
  have kc14 : ((Int32.ofInt 4)).toInt = 4 := by decide
  have kc15 : ((Int32.ofInt 5)).toInt = 5 := by decide
  have kz := sy_z0
  refine hq_F.st (s' := (1, _, _, _)) hj266_0 rfl rfl rfl rfl ?_
  refine hq_F.st (s' := (2, _, _, _)) hj266_1 rfl rfl rfl (hs_al g0) ?_
  refine hq_F.st (s' := (5, _, _, _)) hj266_2 rfl rfl rfl (hq_gf h.1 sh_61 sk_11_406 (sy_v h.1 (by decide) rfl)) ?_
  rw [hl]
  refine hq_F.st (s' := (6, _, _, _)) hj266_5 rfl rfl rfl rfl ?_
  rw [hn_3]
  refine hq_F.st (s' := (7, _, _, _)) hj266_6 rfl rfl rfl rfl ?_
  refine hq_F.st (s' := (8, _, _, _)) hj266_7 rfl rfl rfl (hs_al (hg_nr g0 (by decide))) ?_
  refine hq_F.st (s' := (11, _, _, _)) hj266_8 rfl rfl rfl rfl ?_
  refine hq_F.call hj266_11 rfl rfl si_11_206 (by decide) (by decide) sz_178 (sy_argsV h.1 sh_61 rfl rfl rfl (Nat.le_of_ble_eq_true rfl) rfl (Nat.le_of_ble_eq_true rfl) rfl (by decide)) (ml_isW (k := 14) h (by decide) kwx_14) (fun _ _ q => by rw [q.1]) ?_
  rintro r11 w ⟨rfl, rfl⟩
  try dsimp only
  by_cases hk14 : ls_k t = ((14 : Nat) : Int)
  · rw [decide_eq_true hk14, show tq_b true = (1 : Int32) from rfl]
    have h2k : 2 ≤ t.1 := by rw [ls_k2 (t := t) (by omega)]; omega
    refine hq_F.st (s' := (17, _, _, _)) hj266_14 rfl rfl rfl (hs_ifn (t := 21) (ci_eqn (by omega)) rfl) ?_
    refine hq_F.st (s' := (18, _, _, _)) hj266_17 rfl rfl rfl rfl ?_
    refine hq_F.st (s' := (52, _, _, _)) hj266_18 rfl rfl rfl rfl ?_
    refine hq_F.st (s' := (53, _, _, _)) hj266_52 rfl rfl rfl rfl ?_
    refine hq_F.st (s' := (54, _, _, _)) hj266_53 rfl rfl rfl (hs_iln (pi_get_set _ _ _)) ?_
    refine hq_F.st (s' := (57, _, _, _)) hj266_54 rfl rfl rfl (hs_ifn (t := 166) (ci_ltn (by omega)) rfl) ?_
    refine hq_F.st (s' := (58, _, _, _)) hj266_57 rfl rfl rfl (hs_al (hg_nr (hg_nr g0 (by decide)) (by decide))) ?_
    refine hq_F.st (s' := (61, _, _, _)) hj266_58 rfl rfl rfl (hq_gf h.1 sh_61 sk_11_406 (sy_v h.1 (by decide) rfl)) ?_
    rw [show gv w 61 32 = Int32.ofNat n from hl]
    have tn : (Int32.ofNat n).toInt = (n : Int) := hn_t (by omega)
    refine hq_F.st (s' := (63, _, _, _)) hj266_61 rfl rfl rfl rfl ?_
    by_cases b63 : ¬ ((Int32.ofNat n)).toInt = 40
    · skip
      refine hq_F.st (s' := (72, _, _, _)) hj266_63 rfl rfl rfl (hs_ic (ci_ne (by omega)) rfl) ?_
      refine hq_F.st (s' := (73, _, _, _)) hj266_72 rfl rfl rfl (hs_al (hg_nr (hg_nr g0 (by decide)) (by decide))) ?_
      refine hq_F.st (s' := (76, _, _, _)) hj266_73 rfl rfl rfl (hq_gf h.1 sh_61 sk_11_40 (hq_ref h.1 sh_61 (b := 65) rfl)) ?_
      refine hq_F.st (s' := (77, _, _, _)) hj266_76 rfl rfl rfl (hs_iln (hg_ne (pi_get_set _ _ _) (by decide))) ?_
      refine hq_F.st (s' := (78, _, _, _)) hj266_77 rfl rfl rfl (hs_iln (pi_get_set _ _ _)) ?_
      refine sy_isv hj266_78 h.1 sh_65 (n := 3 * n) (hn_t (by omega)) (by omega) (sy_full (sb_65 _ (by omega))) (fun w1 hC1 hw1 => ?_)
      have F1 := dm_w hw1 (by omega)
      have h1 := h.fr hC1 F1 rfl
      have D1 := hD.fr F1 (by decide) (by decide)
      refine hq_F.st (s' := (80, _, _, _)) hj266_79 rfl rfl rfl (hs_al (hg_nr (hg_nr g0 (by decide)) (by decide))) ?_
      refine hq_F.call hj266_80 rfl rfl si_11_181 (by decide) (by decide) sz_176 (sy_argsV hC1 sh_61 rfl rfl rfl (Nat.le_of_ble_eq_true rfl) rfl (Nat.le_of_ble_eq_true rfl) rfl (by decide)) (mt_adv (d := d + 2) h1 h2k) (fun _ _ q => by rw [q.2.1.1.1, hC1.1]) ?_
      rintro r80 w2 ⟨rfl, h2, F2⟩
      try dsimp only
      have D2 := D1.fr F2 (by decide) (by decide)
      refine hq_F.st (s' := (84, _, _, _)) hj266_83 rfl rfl rfl (hs_iln (pi_get_set _ _ _)) ?_
      refine hq_F.st (s' := (86, _, _, _)) hj266_84 rfl rfl rfl rfl ?_
      refine hq_F.st (s' := (115, _, _, _)) hj266_86 rfl rfl rfl (hs_ic (ci_ne (by omega)) rfl) ?_
      refine hq_F.st (s' := (116, _, _, _)) hj266_115 rfl rfl rfl (hs_iln (pi_get_set _ _ _)) ?_
      refine hq_F.st (s' := (117, _, _, _)) hj266_116 rfl rfl rfl rfl ?_
      refine hq_F.st (s' := (120, _, _, _)) hj266_117 rfl rfl rfl (hs_icn (t := 140) (ci_nen (by omega)) rfl) ?_
      refine hq_F.st (s' := (121, _, _, _)) hj266_120 rfl rfl rfl (hs_al (hg_nr (hg_nr g0 (by decide)) (by decide))) ?_
      refine hq_F.st (s' := (122, _, _, _)) hj266_121 rfl rfl rfl (hs_iln (hg_ne (pi_get_set _ _ _) (by decide))) ?_
      refine hq_F.st (s' := (123, _, _, _)) hj266_122 rfl rfl rfl rfl ?_
      refine hq_F.st (s' := (124, _, _, _)) hj266_123 rfl rfl rfl rfl ?_
      rw [hn_s]
      refine hq_F.st (s' := (126, _, _, _)) hj266_124 rfl rfl rfl rfl ?_
      refine hq_F.st (s' := (127, _, _, _)) hj266_126 rfl rfl rfl (hs_al (hg_nr (hg_nr g0 (by decide)) (by decide))) ?_
      refine hq_F.st (s' := (130, _, _, _)) hj266_127 rfl rfl rfl (hq_gf h2.1 sh_61 sk_11_33 (hq_ref h2.1 sh_61 (b := 63) rfl)) ?_
      refine hq_F.st (s' := (131, _, _, _)) hj266_130 rfl rfl rfl rfl ?_
      refine hq_F.st (s' := (132, _, _, _)) hj266_131 rfl rfl rfl (sy_iav h2.1 hq_s63 (n := 3) (by decide) (by decide)) ?_
      refine hq_F.call hj266_132 rfl rfl si_11_409 (by decide) (by decide) sz_267 (sy_argsV h2.1 sh_61 rfl rfl rfl (Nat.le_of_ble_eq_true rfl) rfl (Nat.le_of_ble_eq_true rfl) rfl (by decide)) (dm_puts (d := d) (so := 3) (j := 3 * n + 1) h2 D2 ho (by omega) (by decide) (D2.2 3 (by omega)) (by show 0 + 15 + nt_c 3 NT ≤ 54; omega) (by omega)) (fun _ _ q => by rw [q.1.1, h2.1.1]) ?_
      rintro r132 w3 ⟨hC3, G3, q⟩
      try dsimp only
      rcases q with ⟨rfl, F3, t3, e3, h3⟩ | ⟨rfl, k, p, e3, q3⟩
      · have D3 := D2.fr F3 (by decide) (by decide)
        refine hq_F.st (s' := (140, _, _, _)) hj266_135 rfl rfl rfl (hs_if (ci_ne (by omega)) rfl) ?_
        refine hq_F.st (s' := (141, _, _, _)) hj266_140 rfl rfl rfl (hs_al (hg_nr (hg_nr g0 (by decide)) (by decide))) ?_
        refine hq_F.st (s' := (142, _, _, _)) hj266_141 rfl rfl rfl (hs_iln (pi_get_set _ _ _)) ?_
        refine hq_F.st (s' := (143, _, _, _)) hj266_142 rfl rfl rfl rfl ?_
        refine hq_F.st (s' := (146, _, _, _)) hj266_143 rfl rfl rfl (hs_icn (t := 152) (ci_nen (by omega)) rfl) ?_
        refine hq_F.st (s' := (147, _, _, _)) hj266_146 rfl rfl rfl (hs_iln (hg_ne (pi_get_set _ _ _) (by decide))) ?_
        refine hq_F.st (s' := (148, _, _, _)) hj266_147 rfl rfl rfl rfl ?_
        refine hq_F.st (s' := (149, _, _, _)) hj266_148 rfl rfl rfl rfl ?_
        rw [hn_2]
        refine hq_F.st (s' := (155, _, _, _)) hj266_149 rfl rfl rfl rfl ?_
        refine hq_F.st (s' := (156, _, _, _)) hj266_155 rfl rfl rfl rfl ?_
        refine hq_F.st (s' := (157, _, _, _)) hj266_156 rfl rfl rfl (hs_al (hg_nr (hg_nr g0 (by decide)) (by decide))) ?_
        refine hq_F.st (s' := (160, _, _, _)) hj266_157 rfl rfl rfl (hq_gf hC3 sh_61 sk_11_33 (hq_ref hC3 sh_61 (b := 63) rfl)) ?_
        refine hq_F.st (s' := (161, _, _, _)) hj266_160 rfl rfl rfl rfl ?_
        refine hq_F.st (s' := (162, _, _, _)) hj266_161 rfl rfl rfl (sy_iav hC3 hq_s63 (n := 0) (by decide) (by decide)) ?_
        refine hq_F.call hj266_162 rfl rfl si_11_409 (by decide) (by decide) sz_267 (sy_argsV hC3 sh_61 rfl rfl rfl (Nat.le_of_ble_eq_true rfl) rfl (Nat.le_of_ble_eq_true rfl) rfl (by decide)) (dm_puts (d := d) (so := 0) (j := 3 * n + 2) h3 D3 ho (by omega) (by decide) (D3.2 0 (by omega)) (by show 0 + 0 + nt_c 0 NT ≤ 54; omega) (by omega)) (fun _ _ q => by rw [q.1.1, hC3.1]) ?_
        rintro r162 w4 ⟨hC4, G4, q⟩
        try dsimp only
        rcases q with ⟨rfl, F4, t4, e4, h4⟩ | ⟨rfl, k, p, e4, q4⟩
        · have D4 := D3.fr F4 (by decide) (by decide)
          refine hq_F.en hj266_165 rfl rfl ?_
          exact ⟨hC4, ((F1.cov (by decide)).tr ((F2.cov (by decide)).tr ((F3.cov (by decide)).tr (F4.cov (by decide))))), Or.inl ⟨rfl, ((F1.cov (by decide)).tr ((F2.cov (by decide)).tr ((F3.cov (by decide)).tr (F4.cov (by decide))))), t4, by unfold dy_line; rw [if_neg (show ¬ ls_nm t = true from dy_nn (by omega)), if_pos (by omega)]; rw [show dy_m tp B M n t = .inr (tq_nx tp B M t) from if_pos (by omega), ls_br]; show ls_b (dy_nm tp B M 3 NT (tq_nx tp B M t)) _ = _; rw [e3]; exact e4, h4⟩⟩
        · skip
          refine hq_F.en hj266_165 rfl rfl ?_
          exact ⟨hC4, ((F1.cov (by decide)).tr ((F2.cov (by decide)).tr ((F3.cov (by decide)).tr (G4.cov (by decide))))), Or.inr ⟨rfl, k, p, by unfold dy_line; rw [if_neg (show ¬ ls_nm t = true from dy_nn (by omega)), if_pos (by omega)]; rw [show dy_m tp B M n t = .inr (tq_nx tp B M t) from if_pos (by omega), ls_br]; show ls_b (dy_nm tp B M 3 NT (tq_nx tp B M t)) _ = _; rw [e3]; exact e4, q4⟩⟩
      · skip
        refine hq_F.st (s' := (138, _, _, _)) hj266_135 rfl rfl rfl (hs_ifn (t := 140) (ci_nen (by omega)) rfl) ?_
        refine hq_F.st (s' := (139, _, _, _)) hj266_138 rfl rfl rfl rfl ?_
        refine hq_F.en hj266_139 rfl rfl ?_
        exact ⟨hC3, ((F1.cov (by decide)).tr ((F2.cov (by decide)).tr (G3.cov (by decide)))), Or.inr ⟨rfl, k, p, by unfold dy_line; rw [if_neg (show ¬ ls_nm t = true from dy_nn (by omega)), if_pos (by omega)]; rw [show dy_m tp B M n t = .inr (tq_nx tp B M t) from if_pos (by omega), ls_br]; show ls_b (dy_nm tp B M 3 NT (tq_nx tp B M t)) _ = _; rw [e3]; rfl, q3⟩⟩
    · skip
      refine hq_F.st (s' := (66, _, _, _)) hj266_63 rfl rfl rfl (hs_icn (t := 72) (ci_nen (by omega)) rfl) ?_
      refine hq_F.st (s' := (67, _, _, _)) hj266_66 rfl rfl rfl (hs_al (hg_nr (hg_nr g0 (by decide)) (by decide))) ?_
      refine hq_F.st (s' := (68, _, _, _)) hj266_67 rfl rfl rfl rfl ?_
      refine hq_F.call hj266_68 rfl rfl si_11_178 (by decide) (by decide) sz_177 (sy_argsV h.1 sh_61 rfl rfl rfl (Nat.le_of_ble_eq_true rfl) rfl (Nat.le_of_ble_eq_true rfl) rfl (by decide)) (mt_bad h ((Int32.ofInt 4))) (fun _ _ q => by rw [q.2.1.1.1, h.1.1]) ?_
      rintro r68 w9 ⟨rfl, k1, k2, k3, k4⟩
      try dsimp only
      refine hq_F.en hj266_71 rfl rfl ?_
      exact ⟨k1.1, (k2.cov (by decide)), Or.inr ⟨rfl, 4, t.2.1, by unfold dy_line; rw [if_neg (show ¬ ls_nm t = true from dy_nn (by omega)), if_pos (by omega)]; rw [show dy_m tp B M n t = .inl (4, t.2.1) from if_neg (by omega)]; rfl, ⟨by rw [k3]; decide, k4⟩⟩⟩
  · rw [decide_eq_false hk14, show tq_b false = (0 : Int32) from rfl]
    refine hq_F.st (s' := (21, _, _, _)) hj266_14 rfl rfl rfl (hs_if (ci_eq (by omega)) rfl) ?_
    refine hq_F.st (s' := (22, _, _, _)) hj266_21 rfl rfl rfl (hs_al (hg_nr g0 (by decide))) ?_
    refine hq_F.st (s' := (25, _, _, _)) hj266_22 rfl rfl rfl rfl ?_
    refine hq_F.call hj266_25 rfl rfl si_11_206 (by decide) (by decide) sz_178 (sy_argsV h.1 sh_61 rfl rfl rfl (Nat.le_of_ble_eq_true rfl) rfl (Nat.le_of_ble_eq_true rfl) rfl (by decide)) (ml_isW (k := 15) h (by decide) kwx_15) (fun _ _ q => by rw [q.1]) ?_
    rintro r25 w ⟨rfl, rfl⟩
    try dsimp only
    by_cases hk15 : ls_k t = ((15 : Nat) : Int)
    · rw [decide_eq_true hk15, show tq_b true = (1 : Int32) from rfl]
      have h2k : 2 ≤ t.1 := by rw [ls_k2 (t := t) (by omega)]; omega
      refine hq_F.st (s' := (31, _, _, _)) hj266_28 rfl rfl rfl (hs_ifn (t := 36) (ci_eqn (by omega)) rfl) ?_
      refine hq_F.st (s' := (33, _, _, _)) hj266_31 rfl rfl rfl rfl ?_
      refine hq_F.st (s' := (52, _, _, _)) hj266_33 rfl rfl rfl rfl ?_
      refine hq_F.st (s' := (53, _, _, _)) hj266_52 rfl rfl rfl rfl ?_
      refine hq_F.st (s' := (54, _, _, _)) hj266_53 rfl rfl rfl (hs_iln (pi_get_set _ _ _)) ?_
      refine hq_F.st (s' := (57, _, _, _)) hj266_54 rfl rfl rfl (hs_ifn (t := 166) (ci_ltn (by omega)) rfl) ?_
      refine hq_F.st (s' := (58, _, _, _)) hj266_57 rfl rfl rfl (hs_al (hg_nr (hg_nr g0 (by decide)) (by decide))) ?_
      refine hq_F.st (s' := (61, _, _, _)) hj266_58 rfl rfl rfl (hq_gf h.1 sh_61 sk_11_406 (sy_v h.1 (by decide) rfl)) ?_
      rw [show gv w 61 32 = Int32.ofNat n from hl]
      have tn : (Int32.ofNat n).toInt = (n : Int) := hn_t (by omega)
      refine hq_F.st (s' := (63, _, _, _)) hj266_61 rfl rfl rfl rfl ?_
      by_cases b63 : ¬ ((Int32.ofNat n)).toInt = 40
      · skip
        refine hq_F.st (s' := (72, _, _, _)) hj266_63 rfl rfl rfl (hs_ic (ci_ne (by omega)) rfl) ?_
        refine hq_F.st (s' := (73, _, _, _)) hj266_72 rfl rfl rfl (hs_al (hg_nr (hg_nr g0 (by decide)) (by decide))) ?_
        refine hq_F.st (s' := (76, _, _, _)) hj266_73 rfl rfl rfl (hq_gf h.1 sh_61 sk_11_40 (hq_ref h.1 sh_61 (b := 65) rfl)) ?_
        refine hq_F.st (s' := (77, _, _, _)) hj266_76 rfl rfl rfl (hs_iln (hg_ne (pi_get_set _ _ _) (by decide))) ?_
        refine hq_F.st (s' := (78, _, _, _)) hj266_77 rfl rfl rfl (hs_iln (pi_get_set _ _ _)) ?_
        refine sy_isv hj266_78 h.1 sh_65 (n := 3 * n) (hn_t (by omega)) (by omega) (sy_full (sb_65 _ (by omega))) (fun w1 hC1 hw1 => ?_)
        have F1 := dm_w hw1 (by omega)
        have h1 := h.fr hC1 F1 rfl
        have D1 := hD.fr F1 (by decide) (by decide)
        refine hq_F.st (s' := (80, _, _, _)) hj266_79 rfl rfl rfl (hs_al (hg_nr (hg_nr g0 (by decide)) (by decide))) ?_
        refine hq_F.call hj266_80 rfl rfl si_11_181 (by decide) (by decide) sz_176 (sy_argsV hC1 sh_61 rfl rfl rfl (Nat.le_of_ble_eq_true rfl) rfl (Nat.le_of_ble_eq_true rfl) rfl (by decide)) (mt_adv (d := d + 2) h1 h2k) (fun _ _ q => by rw [q.2.1.1.1, hC1.1]) ?_
        rintro r80 w2 ⟨rfl, h2, F2⟩
        try dsimp only
        have D2 := D1.fr F2 (by decide) (by decide)
        refine hq_F.st (s' := (84, _, _, _)) hj266_83 rfl rfl rfl (hs_iln (pi_get_set _ _ _)) ?_
        refine hq_F.st (s' := (86, _, _, _)) hj266_84 rfl rfl rfl rfl ?_
        refine hq_F.st (s' := (115, _, _, _)) hj266_86 rfl rfl rfl (hs_ic (ci_ne (by omega)) rfl) ?_
        refine hq_F.st (s' := (116, _, _, _)) hj266_115 rfl rfl rfl (hs_iln (pi_get_set _ _ _)) ?_
        refine hq_F.st (s' := (117, _, _, _)) hj266_116 rfl rfl rfl rfl ?_
        refine hq_F.st (s' := (140, _, _, _)) hj266_117 rfl rfl rfl (hs_ic (ci_ne (by omega)) rfl) ?_
        refine hq_F.st (s' := (141, _, _, _)) hj266_140 rfl rfl rfl (hs_al (hg_nr (hg_nr g0 (by decide)) (by decide))) ?_
        refine hq_F.st (s' := (142, _, _, _)) hj266_141 rfl rfl rfl (hs_iln (pi_get_set _ _ _)) ?_
        refine hq_F.st (s' := (143, _, _, _)) hj266_142 rfl rfl rfl rfl ?_
        refine hq_F.st (s' := (152, _, _, _)) hj266_143 rfl rfl rfl (hs_ic (ci_ne (by omega)) rfl) ?_
        refine hq_F.st (s' := (153, _, _, _)) hj266_152 rfl rfl rfl (hs_iln (hg_ne (pi_get_set _ _ _) (by decide))) ?_
        refine hq_F.st (s' := (154, _, _, _)) hj266_153 rfl rfl rfl rfl ?_
        refine hq_F.st (s' := (155, _, _, _)) hj266_154 rfl rfl rfl rfl ?_
        rw [hn_s]
        refine hq_F.st (s' := (156, _, _, _)) hj266_155 rfl rfl rfl rfl ?_
        refine hq_F.st (s' := (157, _, _, _)) hj266_156 rfl rfl rfl (hs_al (hg_nr (hg_nr g0 (by decide)) (by decide))) ?_
        refine hq_F.st (s' := (160, _, _, _)) hj266_157 rfl rfl rfl (hq_gf h2.1 sh_61 sk_11_33 (hq_ref h2.1 sh_61 (b := 63) rfl)) ?_
        refine hq_F.st (s' := (161, _, _, _)) hj266_160 rfl rfl rfl rfl ?_
        refine hq_F.st (s' := (162, _, _, _)) hj266_161 rfl rfl rfl (sy_iav h2.1 hq_s63 (n := 0) (by decide) (by decide)) ?_
        refine hq_F.call hj266_162 rfl rfl si_11_409 (by decide) (by decide) sz_267 (sy_argsV h2.1 sh_61 rfl rfl rfl (Nat.le_of_ble_eq_true rfl) rfl (Nat.le_of_ble_eq_true rfl) rfl (by decide)) (dm_puts (d := d) (so := 0) (j := 3 * n + 1) h2 D2 ho (by omega) (by decide) (D2.2 0 (by omega)) (by show 0 + 0 + nt_c 0 NT ≤ 54; omega) (by omega)) (fun _ _ q => by rw [q.1.1, h2.1.1]) ?_
        rintro r162 w4 ⟨hC4, G4, q⟩
        try dsimp only
        rcases q with ⟨rfl, F4, t4, e4, h4⟩ | ⟨rfl, k, p, e4, q4⟩
        · have D4 := D2.fr F4 (by decide) (by decide)
          refine hq_F.en hj266_165 rfl rfl ?_
          exact ⟨hC4, ((F1.cov (by decide)).tr ((F2.cov (by decide)).tr (F4.cov (by decide)))), Or.inl ⟨rfl, ((F1.cov (by decide)).tr ((F2.cov (by decide)).tr (F4.cov (by decide)))), t4, by unfold dy_line; rw [if_neg (show ¬ ls_nm t = true from dy_nn (by omega)), if_neg (by omega), if_pos (by omega)]; rw [show dy_m tp B M n t = .inr (tq_nx tp B M t) from if_pos (by omega), ls_br]; exact e4, h4⟩⟩
        · skip
          refine hq_F.en hj266_165 rfl rfl ?_
          exact ⟨hC4, ((F1.cov (by decide)).tr ((F2.cov (by decide)).tr (G4.cov (by decide)))), Or.inr ⟨rfl, k, p, by unfold dy_line; rw [if_neg (show ¬ ls_nm t = true from dy_nn (by omega)), if_neg (by omega), if_pos (by omega)]; rw [show dy_m tp B M n t = .inr (tq_nx tp B M t) from if_pos (by omega), ls_br]; exact e4, q4⟩⟩
      · skip
        refine hq_F.st (s' := (66, _, _, _)) hj266_63 rfl rfl rfl (hs_icn (t := 72) (ci_nen (by omega)) rfl) ?_
        refine hq_F.st (s' := (67, _, _, _)) hj266_66 rfl rfl rfl (hs_al (hg_nr (hg_nr g0 (by decide)) (by decide))) ?_
        refine hq_F.st (s' := (68, _, _, _)) hj266_67 rfl rfl rfl rfl ?_
        refine hq_F.call hj266_68 rfl rfl si_11_178 (by decide) (by decide) sz_177 (sy_argsV h.1 sh_61 rfl rfl rfl (Nat.le_of_ble_eq_true rfl) rfl (Nat.le_of_ble_eq_true rfl) rfl (by decide)) (mt_bad h ((Int32.ofInt 4))) (fun _ _ q => by rw [q.2.1.1.1, h.1.1]) ?_
        rintro r68 w9 ⟨rfl, k1, k2, k3, k4⟩
        try dsimp only
        refine hq_F.en hj266_71 rfl rfl ?_
        exact ⟨k1.1, (k2.cov (by decide)), Or.inr ⟨rfl, 4, t.2.1, by unfold dy_line; rw [if_neg (show ¬ ls_nm t = true from dy_nn (by omega)), if_neg (by omega), if_pos (by omega)]; rw [show dy_m tp B M n t = .inl (4, t.2.1) from if_neg (by omega)]; rfl, ⟨by rw [k3]; decide, k4⟩⟩⟩
    · rw [decide_eq_false hk15, show tq_b false = (0 : Int32) from rfl]
      refine hq_F.st (s' := (36, _, _, _)) hj266_28 rfl rfl rfl (hs_if (ci_eq (by omega)) rfl) ?_
      refine hq_F.st (s' := (37, _, _, _)) hj266_36 rfl rfl rfl (hs_al (hg_nr g0 (by decide))) ?_
      refine hq_F.st (s' := (40, _, _, _)) hj266_37 rfl rfl rfl rfl ?_
      refine hq_F.call hj266_40 rfl rfl si_11_206 (by decide) (by decide) sz_178 (sy_argsV h.1 sh_61 rfl rfl rfl (Nat.le_of_ble_eq_true rfl) rfl (Nat.le_of_ble_eq_true rfl) rfl (by decide)) (ml_isW (k := 16) h (by decide) kwx_16) (fun _ _ q => by rw [q.1]) ?_
      rintro r40 w ⟨rfl, rfl⟩
      try dsimp only
      by_cases hk16 : ls_k t = ((16 : Nat) : Int)
      · rw [decide_eq_true hk16, show tq_b true = (1 : Int32) from rfl]
        have h2k : 2 ≤ t.1 := by rw [ls_k2 (t := t) (by omega)]; omega
        refine hq_F.st (s' := (46, _, _, _)) hj266_43 rfl rfl rfl (hs_ifn (t := 51) (ci_eqn (by omega)) rfl) ?_
        refine hq_F.st (s' := (48, _, _, _)) hj266_46 rfl rfl rfl rfl ?_
        refine hq_F.st (s' := (52, _, _, _)) hj266_48 rfl rfl rfl rfl ?_
        refine hq_F.st (s' := (53, _, _, _)) hj266_52 rfl rfl rfl rfl ?_
        refine hq_F.st (s' := (54, _, _, _)) hj266_53 rfl rfl rfl (hs_iln (pi_get_set _ _ _)) ?_
        refine hq_F.st (s' := (57, _, _, _)) hj266_54 rfl rfl rfl (hs_ifn (t := 166) (ci_ltn (by omega)) rfl) ?_
        refine hq_F.st (s' := (58, _, _, _)) hj266_57 rfl rfl rfl (hs_al (hg_nr (hg_nr g0 (by decide)) (by decide))) ?_
        refine hq_F.st (s' := (61, _, _, _)) hj266_58 rfl rfl rfl (hq_gf h.1 sh_61 sk_11_406 (sy_v h.1 (by decide) rfl)) ?_
        rw [show gv w 61 32 = Int32.ofNat n from hl]
        have tn : (Int32.ofNat n).toInt = (n : Int) := hn_t (by omega)
        refine hq_F.st (s' := (63, _, _, _)) hj266_61 rfl rfl rfl rfl ?_
        by_cases b63 : ¬ ((Int32.ofNat n)).toInt = 40
        · skip
          refine hq_F.st (s' := (72, _, _, _)) hj266_63 rfl rfl rfl (hs_ic (ci_ne (by omega)) rfl) ?_
          refine hq_F.st (s' := (73, _, _, _)) hj266_72 rfl rfl rfl (hs_al (hg_nr (hg_nr g0 (by decide)) (by decide))) ?_
          refine hq_F.st (s' := (76, _, _, _)) hj266_73 rfl rfl rfl (hq_gf h.1 sh_61 sk_11_40 (hq_ref h.1 sh_61 (b := 65) rfl)) ?_
          refine hq_F.st (s' := (77, _, _, _)) hj266_76 rfl rfl rfl (hs_iln (hg_ne (pi_get_set _ _ _) (by decide))) ?_
          refine hq_F.st (s' := (78, _, _, _)) hj266_77 rfl rfl rfl (hs_iln (pi_get_set _ _ _)) ?_
          refine sy_isv hj266_78 h.1 sh_65 (n := 3 * n) (hn_t (by omega)) (by omega) (sy_full (sb_65 _ (by omega))) (fun w1 hC1 hw1 => ?_)
          have F1 := dm_w hw1 (by omega)
          have h1 := h.fr hC1 F1 rfl
          have D1 := hD.fr F1 (by decide) (by decide)
          refine hq_F.st (s' := (80, _, _, _)) hj266_79 rfl rfl rfl (hs_al (hg_nr (hg_nr g0 (by decide)) (by decide))) ?_
          refine hq_F.call hj266_80 rfl rfl si_11_181 (by decide) (by decide) sz_176 (sy_argsV hC1 sh_61 rfl rfl rfl (Nat.le_of_ble_eq_true rfl) rfl (Nat.le_of_ble_eq_true rfl) rfl (by decide)) (mt_adv (d := d + 2) h1 h2k) (fun _ _ q => by rw [q.2.1.1.1, hC1.1]) ?_
          rintro r80 w2 ⟨rfl, h2, F2⟩
          try dsimp only
          have D2 := D1.fr F2 (by decide) (by decide)
          refine hq_F.st (s' := (84, _, _, _)) hj266_83 rfl rfl rfl (hs_iln (pi_get_set _ _ _)) ?_
          refine hq_F.st (s' := (86, _, _, _)) hj266_84 rfl rfl rfl rfl ?_
          refine hq_F.st (s' := (89, _, _, _)) hj266_86 rfl rfl rfl (hs_icn (t := 115) (ci_nen (by omega)) rfl) ?_
          refine hq_F.st (s' := (90, _, _, _)) hj266_89 rfl rfl rfl (hs_al (hg_nr (hg_nr g0 (by decide)) (by decide))) ?_
          refine hq_F.st (s' := (91, _, _, _)) hj266_90 rfl rfl rfl rfl ?_
          refine hq_F.st (s' := (93, _, _, _)) hj266_91 rfl rfl rfl rfl ?_
          refine hq_F.call hj266_93 rfl rfl si_11_191 (by decide) (by decide) sz_182 (sy_argsV h2.1 sh_61 rfl rfl rfl (Nat.le_of_ble_eq_true rfl) rfl (Nat.le_of_ble_eq_true rfl) rfl (by decide)) (mt_num (d := d + 1) h2 (Int32.ofInt 1) ((Int8.ofInt 60).toInt32)) (fun r w' q => by rcases q with ⟨_, _, _, q, _⟩ | ⟨_, q, _⟩; rw [q.1.1, h2.1.1]; rw [q.1.1, h2.1.1]) ?_
          rintro r93 w3 q
          try dsimp only
          rcases q with ⟨rfl, n3, r3, h3, F3, g3⟩ | ⟨rfl, h3, F3, r3, q⟩
          · skip
            refine hq_F.st (s' := (101, _, _, _)) hj266_96 rfl rfl rfl (hs_if (ci_ne (by omega)) rfl) ?_
            refine hq_F.st (s' := (102, _, _, _)) hj266_101 rfl rfl rfl (hs_al (hg_nr (hg_nr g0 (by decide)) (by decide))) ?_
            refine hq_F.st (s' := (105, _, _, _)) hj266_102 rfl rfl rfl (hq_gf h3.1 sh_61 sk_11_40 (hq_ref h3.1 sh_61 (b := 65) rfl)) ?_
            refine hq_F.st (s' := (106, _, _, _)) hj266_105 rfl rfl rfl (hs_iln (hg_ne (pi_get_set _ _ _) (by decide))) ?_
            refine hq_F.st (s' := (107, _, _, _)) hj266_106 rfl rfl rfl rfl ?_
            refine hq_F.st (s' := (108, _, _, _)) hj266_107 rfl rfl rfl rfl ?_
            rw [hn_s]
            refine hq_F.st (s' := (109, _, _, _)) hj266_108 rfl rfl rfl (hs_al (hg_nr (hg_nr g0 (by decide)) (by decide))) ?_
            refine hq_F.st (s' := (112, _, _, _)) hj266_109 rfl rfl rfl (hq_gf h3.1 sh_61 sk_11_188 (sy_v h3.1 (by decide) rfl)) ?_
            refine sy_isv hj266_112 h3.1 sh_65 (n := 3 * n + 1) (hn_t (by omega)) (by omega) (sy_full (sb_65 _ (by omega))) (fun w4 hC4 hw4 => ?_)
            have F4 := dm_w hw4 (by omega)
            have h4 := h3.fr hC4 F4 rfl
            have D4 := (D2.fr F3 (by decide) (by decide)).fr F4 (by decide) (by decide)
            refine hq_F.st (s' := (114, _, _, _)) hj266_113 rfl rfl rfl rfl ?_
            refine hq_F.en hj266_114 rfl rfl ?_
            exact ⟨hC4, ((F1.cov (by decide)).tr ((F2.cov (by decide)).tr ((F3.cov (by decide)).tr (F4.cov (by decide))))), Or.inl ⟨rfl, ((F1.cov (by decide)).tr ((F2.cov (by decide)).tr ((F3.cov (by decide)).tr (F4.cov (by decide))))), (tq_nx tp B M (tq_nx tp B M t)), by unfold dy_line; rw [if_neg (show ¬ ls_nm t = true from dy_nn (by omega)), if_neg (by omega), if_neg (by omega), if_pos (by omega)]; rw [show dy_m tp B M n t = .inr (tq_nx tp B M t) from if_pos (by omega), ls_br]; unfold dy_num; rw [show ls_numb 1 60 (tq_nx tp B M t) = .inr (tq_nx tp B M t).2.2.1 from if_pos ⟨n3, by omega, by omega⟩]; rfl, h4⟩⟩
          · skip
            refine hq_F.st (s' := (99, _, _, _)) hj266_96 rfl rfl rfl (hs_ifn (t := 101) (ci_nen (by omega)) rfl) ?_
            refine hq_F.st (s' := (100, _, _, _)) hj266_99 rfl rfl rfl rfl ?_
            refine hq_F.en hj266_100 rfl rfl ?_
            exact ⟨h3.1, ((F1.cov (by decide)).tr ((F2.cov (by decide)).tr (F3.cov (by decide)))), Or.inr ⟨rfl, (if (tq_nx tp B M t).1 = 3 then 2 else 1), (tq_nx tp B M t).2.1, by unfold dy_line; rw [if_neg (show ¬ ls_nm t = true from dy_nn (by omega)), if_neg (by omega), if_neg (by omega), if_pos (by omega)]; rw [show dy_m tp B M n t = .inr (tq_nx tp B M t) from if_pos (by omega), ls_br]; unfold dy_num; rw [show ls_numb 1 60 (tq_nx tp B M t) = .inl (if (tq_nx tp B M t).1 = 3 then 2 else 1, (tq_nx tp B M t).2.1) from if_neg (fun q => r3 ⟨q.1, by omega, by omega⟩)]; rfl, q⟩⟩
        · skip
          refine hq_F.st (s' := (66, _, _, _)) hj266_63 rfl rfl rfl (hs_icn (t := 72) (ci_nen (by omega)) rfl) ?_
          refine hq_F.st (s' := (67, _, _, _)) hj266_66 rfl rfl rfl (hs_al (hg_nr (hg_nr g0 (by decide)) (by decide))) ?_
          refine hq_F.st (s' := (68, _, _, _)) hj266_67 rfl rfl rfl rfl ?_
          refine hq_F.call hj266_68 rfl rfl si_11_178 (by decide) (by decide) sz_177 (sy_argsV h.1 sh_61 rfl rfl rfl (Nat.le_of_ble_eq_true rfl) rfl (Nat.le_of_ble_eq_true rfl) rfl (by decide)) (mt_bad h ((Int32.ofInt 4))) (fun _ _ q => by rw [q.2.1.1.1, h.1.1]) ?_
          rintro r68 w9 ⟨rfl, k1, k2, k3, k4⟩
          try dsimp only
          refine hq_F.en hj266_71 rfl rfl ?_
          exact ⟨k1.1, (k2.cov (by decide)), Or.inr ⟨rfl, 4, t.2.1, by unfold dy_line; rw [if_neg (show ¬ ls_nm t = true from dy_nn (by omega)), if_neg (by omega), if_neg (by omega), if_pos (by omega)]; rw [show dy_m tp B M n t = .inl (4, t.2.1) from if_neg (by omega)]; rfl, ⟨by rw [k3]; decide, k4⟩⟩⟩
      · rw [decide_eq_false hk16, show tq_b false = (0 : Int32) from rfl]
        refine hq_F.st (s' := (51, _, _, _)) hj266_43 rfl rfl rfl (hs_if (ci_eq (by omega)) rfl) ?_
        refine hq_F.st (s' := (52, _, _, _)) hj266_51 rfl rfl rfl rfl ?_
        refine hq_F.st (s' := (53, _, _, _)) hj266_52 rfl rfl rfl rfl ?_
        refine hq_F.st (s' := (54, _, _, _)) hj266_53 rfl rfl rfl (hs_iln (pi_get_set _ _ _)) ?_
        refine hq_F.st (s' := (166, _, _, _)) hj266_54 rfl rfl rfl (hs_if (ci_lt (by omega)) rfl) ?_
        refine hq_F.st (s' := (167, _, _, _)) hj266_166 rfl rfl rfl (hs_al (hg_nr (hg_nr g0 (by decide)) (by decide))) ?_
        refine hq_F.st (s' := (169, _, _, _)) hj266_167 rfl rfl rfl rfl ?_
        refine hq_F.st (s' := (170, _, _, _)) hj266_169 rfl rfl rfl (hs_al (hg_nr (hg_nr g0 (by decide)) (by decide))) ?_
        refine hq_F.st (s' := (173, _, _, _)) hj266_170 rfl rfl rfl (hq_gf h.1 sh_61 sk_11_33 (hq_ref h.1 sh_61 (b := 63) rfl)) ?_
        refine hq_F.st (s' := (174, _, _, _)) hj266_173 rfl rfl rfl rfl ?_
        refine hq_F.st (s' := (175, _, _, _)) hj266_174 rfl rfl rfl (sy_iav h.1 hq_s63 (n := 4) (by decide) (by decide)) ?_
        refine hq_F.call hj266_175 rfl rfl si_11_203 (by decide) (by decide) sz_186 (sy_argsV h.1 sh_61 rfl rfl rfl (Nat.le_of_ble_eq_true rfl) rfl (Nat.le_of_ble_eq_true rfl) rfl (by decide)) (mn_la (d := d + 2) (off := 0) (s := 4) h hD.1 ho (by decide) (hD.2 4 (by omega)) (by show 0 + 21 + nt_c 4 NT ≤ 54; omega)) (fun r w' q => by rcases q with ⟨_, _, _, q, _⟩ | ⟨_, q, _⟩; rw [q.1.1, h.1.1]; rw [q.1.1, h.1.1]) ?_
        rintro r175 w1 q
        try dsimp only
        rcases q with ⟨rfl, n1, f1, h1, F1, g1x⟩ | ⟨rfl, h1, F1, q⟩
        · obtain ⟨m, hm, em, lm⟩ := ls_look_in ho (by omega) n1 g1x f1
          have D1 := hD.fr F1 (by decide) (by decide)
          refine hq_F.st (s' := (183, _, _, _)) hj266_178 rfl rfl rfl (hs_if (ci_ne (by omega)) rfl) ?_
          refine hq_F.st (s' := (184, _, _, _)) hj266_183 rfl rfl rfl (hs_al (hg_nr (hg_nr g0 (by decide)) (by decide))) ?_
          refine hq_F.st (s' := (187, _, _, _)) hj266_184 rfl rfl rfl (hq_gf h1.1 sh_61 sk_11_406 (sy_v h1.1 (by decide) rfl)) ?_
          rw [show gv w1 61 32 = Int32.ofNat n from (gv_eq (F1 61 32 (by decide))).trans hl]
          have tn : (Int32.ofNat n).toInt = (n : Int) := hn_t (by omega)
          refine hq_F.st (s' := (189, _, _, _)) hj266_187 rfl rfl rfl rfl ?_
          by_cases b189 : ¬ ((Int32.ofNat n)).toInt = 40
          · skip
            refine hq_F.st (s' := (198, _, _, _)) hj266_189 rfl rfl rfl (hs_ic (ci_ne (by omega)) rfl) ?_
            refine hq_F.st (s' := (199, _, _, _)) hj266_198 rfl rfl rfl (hs_al (hg_nr (hg_nr g0 (by decide)) (by decide))) ?_
            refine hq_F.st (s' := (202, _, _, _)) hj266_199 rfl rfl rfl (hq_gf h1.1 sh_61 sk_11_40 (hq_ref h1.1 sh_61 (b := 65) rfl)) ?_
            refine hq_F.st (s' := (203, _, _, _)) hj266_202 rfl rfl rfl (hs_iln (hg_ne (pi_get_set _ _ _) (by decide))) ?_
            refine hq_F.st (s' := (204, _, _, _)) hj266_203 rfl rfl rfl rfl ?_
            refine hq_F.st (s' := (205, _, _, _)) hj266_204 rfl rfl rfl rfl ?_
            rw [hn_s]
            refine hq_F.st (s' := (206, _, _, _)) hj266_205 rfl rfl rfl (hs_al (hg_nr (hg_nr g0 (by decide)) (by decide))) ?_
            refine hq_F.st (s' := (209, _, _, _)) hj266_206 rfl rfl rfl (hq_gf h1.1 sh_61 sk_11_188 (sy_v h1.1 (by decide) rfl)) ?_
            refine sy_isv hj266_209 h1.1 sh_65 (n := 3 * n + 1) (hn_t (by omega)) (by omega) (sy_full (sb_65 _ (by omega))) (fun w2 hC2 hw2 => ?_)
            have F2 := dm_w hw2 (by omega)
            have h2 := h1.fr hC2 F2 rfl
            have D2 := D1.fr F2 (by decide) (by decide)
            refine hq_F.st (s' := (211, _, _, _)) hj266_210 rfl rfl rfl (hs_al (hg_nr (hg_nr g0 (by decide)) (by decide))) ?_
            refine hq_F.call hj266_211 rfl rfl si_11_181 (by decide) (by decide) sz_176 (sy_argsV hC2 sh_61 rfl rfl rfl (Nat.le_of_ble_eq_true rfl) rfl (Nat.le_of_ble_eq_true rfl) rfl (by decide)) (mt_adv (d := d + 2) h2 (by have := n1.1; omega)) (fun _ _ q => by rw [q.2.1.1.1, hC2.1]) ?_
            rintro r211 w3 ⟨rfl, h3, F3⟩
            try dsimp only
            have D3 := D2.fr F3 (by decide) (by decide)
            refine hq_F.st (s' := (215, _, _, _)) hj266_214 rfl rfl rfl (hs_al (hg_nr (hg_nr g0 (by decide)) (by decide))) ?_
            refine hq_F.st (s' := (218, _, _, _)) hj266_215 rfl rfl rfl rfl ?_
            refine hq_F.call hj266_218 rfl rfl si_11_206 (by decide) (by decide) sz_178 (sy_argsV h3.1 sh_61 rfl rfl rfl (Nat.le_of_ble_eq_true rfl) rfl (Nat.le_of_ble_eq_true rfl) rfl (by decide)) (ml_isW (k := 9) h3 (by decide) kwx_9) (fun _ _ q => by rw [q.1]) ?_
            rintro r218 w3 ⟨rfl, rfl⟩
            try dsimp only
            by_cases hk9 : ls_k (tq_nx tp B M t) = ((9 : Nat) : Int)
            · rw [decide_eq_true hk9, show tq_b true = (1 : Int32) from rfl]
              have h2k : 2 ≤ (tq_nx tp B M t).1 := by rw [ls_k2 (t := (tq_nx tp B M t)) (by omega)]; omega
              refine hq_F.st (s' := (224, _, _, _)) hj266_221 rfl rfl rfl (hs_ifn (t := 228) (ci_eqn (by omega)) rfl) ?_
              refine hq_F.st (s' := (225, _, _, _)) hj266_224 rfl rfl rfl rfl ?_
              refine hq_F.st (s' := (285, _, _, _)) hj266_225 rfl rfl rfl rfl ?_
              refine hq_F.st (s' := (286, _, _, _)) hj266_285 rfl rfl rfl rfl ?_
              refine hq_F.st (s' := (287, _, _, _)) hj266_286 rfl rfl rfl (hs_iln (pi_get_set _ _ _)) ?_
              refine hq_F.st (s' := (296, _, _, _)) hj266_287 rfl rfl rfl (hs_if (ci_ge (by omega)) rfl) ?_
              refine hq_F.st (s' := (297, _, _, _)) hj266_296 rfl rfl rfl (hs_al (hg_nr (hg_nr (hg_nr g0 (by decide)) (by decide)) (by decide))) ?_
              refine hq_F.st (s' := (300, _, _, _)) hj266_297 rfl rfl rfl (hq_gf h3.1 sh_61 sk_11_40 (hq_ref h3.1 sh_61 (b := 65) rfl)) ?_
              refine hq_F.st (s' := (301, _, _, _)) hj266_300 rfl rfl rfl (hs_iln (hg_ne (hg_ne (pi_get_set _ _ _) (by decide)) (by decide))) ?_
              refine hq_F.st (s' := (302, _, _, _)) hj266_301 rfl rfl rfl (hs_iln (pi_get_set _ _ _)) ?_
              refine sy_isv hj266_302 h3.1 sh_65 (n := 3 * n) (hn_t (by omega)) (by omega) (sy_full (sb_65 _ (by omega))) (fun w4 hC4 hw4 => ?_)
              have F4 := dm_w hw4 (by omega)
              have h4 := h3.fr hC4 F4 rfl
              have D4 := D3.fr F4 (by decide) (by decide)
              refine hq_F.st (s' := (304, _, _, _)) hj266_303 rfl rfl rfl (hs_al (hg_nr (hg_nr (hg_nr g0 (by decide)) (by decide)) (by decide))) ?_
              refine hq_F.call hj266_304 rfl rfl si_11_181 (by decide) (by decide) sz_176 (sy_argsV hC4 sh_61 rfl rfl rfl (Nat.le_of_ble_eq_true rfl) rfl (Nat.le_of_ble_eq_true rfl) rfl (by decide)) (mt_adv (d := d + 2) h4 h2k) (fun _ _ q => by rw [q.2.1.1.1, hC4.1]) ?_
              rintro r304 w5 ⟨rfl, h5, F5⟩
              try dsimp only
              have D5 := D4.fr F5 (by decide) (by decide)
              refine hq_F.st (s' := (308, _, _, _)) hj266_307 rfl rfl rfl (hs_iln (pi_get_set _ _ _)) ?_
              refine hq_F.st (s' := (309, _, _, _)) hj266_308 rfl rfl rfl rfl ?_
              refine hq_F.st (s' := (312, _, _, _)) hj266_309 rfl rfl rfl (hs_icn (t := 346) (ci_gtn (by omega)) rfl) ?_
              refine hq_F.st (s' := (313, _, _, _)) hj266_312 rfl rfl rfl (hs_al (hg_nr (hg_nr (hg_nr g0 (by decide)) (by decide)) (by decide))) ?_
              refine hq_F.st (s' := (314, _, _, _)) hj266_313 rfl rfl rfl (hs_iln (hg_ne (hg_ne (pi_get_set _ _ _) (by decide)) (by decide))) ?_
              refine hq_F.st (s' := (315, _, _, _)) hj266_314 rfl rfl rfl rfl ?_
              refine hq_F.st (s' := (316, _, _, _)) hj266_315 rfl rfl rfl rfl ?_
              rw [hn_2]
              refine hq_F.st (s' := (317, _, _, _)) hj266_316 rfl rfl rfl (hs_iln (pi_get_set _ _ _)) ?_
              refine hq_F.st (s' := (320, _, _, _)) hj266_317 rfl rfl rfl (hs_ifn (t := 324) (ci_nen (by omega)) rfl) ?_
              refine hq_F.st (s' := (321, _, _, _)) hj266_320 rfl rfl rfl rfl ?_
              refine hq_F.st (s' := (326, _, _, _)) hj266_321 rfl rfl rfl rfl ?_
              refine hq_F.st (s' := (327, _, _, _)) hj266_326 rfl rfl rfl (hs_al (hg_nr (hg_nr (hg_nr g0 (by decide)) (by decide)) (by decide))) ?_
              refine hq_F.st (s' := (330, _, _, _)) hj266_327 rfl rfl rfl (hq_gf h5.1 sh_61 sk_11_33 (hq_ref h5.1 sh_61 (b := 63) rfl)) ?_
              refine hq_F.st (s' := (331, _, _, _)) hj266_330 rfl rfl rfl (hs_iln (pi_get_set _ _ _)) ?_
              refine hq_F.st (s' := (334, _, _, _)) hj266_331 rfl rfl rfl (hs_ifn (t := 338) (ci_nen (by omega)) rfl) ?_
              refine hq_F.st (s' := (335, _, _, _)) hj266_334 rfl rfl rfl rfl ?_
              refine hq_F.st (s' := (339, _, _, _)) hj266_335 rfl rfl rfl rfl ?_
              refine hq_F.st (s' := (340, _, _, _)) hj266_339 rfl rfl rfl (sy_iav h5.1 hq_s63 (n := 0) (by decide) (by decide)) ?_
              refine hq_F.call hj266_340 rfl rfl si_11_409 (by decide) (by decide) sz_267 (sy_argsV h5.1 sh_61 rfl rfl rfl (Nat.le_of_ble_eq_true rfl) rfl (Nat.le_of_ble_eq_true rfl) rfl (by decide)) (dm_puts (d := d) (so := 0) (j := 3 * n + 2) h5 D5 ho (by omega) (by decide) (D5.2 0 (by omega)) (by show 0 + 0 + nt_c 0 NT ≤ 54; omega) (by omega)) (fun _ _ q => by rw [q.1.1, h5.1.1]) ?_
              rintro r340 w6 ⟨hC6, G6, q⟩
              try dsimp only
              rcases q with ⟨rfl, F6, t6, e6, h6⟩ | ⟨rfl, k, p, e6, q6⟩
              · have D6 := D5.fr F6 (by decide) (by decide)
                refine hq_F.st (s' := (346, _, _, _)) hj266_343 rfl rfl rfl (hs_ifn (t := 350) (ci_eqn (by omega)) rfl) ?_
                refine hq_F.st (s' := (347, _, _, _)) hj266_346 rfl rfl rfl rfl ?_
                refine hq_F.st (s' := (351, _, _, _)) hj266_347 rfl rfl rfl rfl ?_
                refine hq_F.en hj266_351 rfl rfl ?_
                exact ⟨hC6, ((F1.cov (by decide)).tr ((F2.cov (by decide)).tr ((F3.cov (by decide)).tr ((F4.cov (by decide)).tr ((F5.cov (by decide)).tr (F6.cov (by decide))))))), Or.inl ⟨rfl, ((F1.cov (by decide)).tr ((F2.cov (by decide)).tr ((F3.cov (by decide)).tr ((F4.cov (by decide)).tr ((F5.cov (by decide)).tr (F6.cov (by decide))))))), t6, by unfold dy_line; rw [if_pos (show ls_nm t = true from decide_eq_true n1)]; unfold dy_man; rw [lm, ls_br]; show ls_b (dy_m tp B M n t) _ = _; rw [show dy_m tp B M n t = .inr (tq_nx tp B M t) from if_pos (by omega), ls_br]; unfold dy_act; rw [if_pos (by omega)]; exact e6, h6⟩⟩
              · skip
                refine hq_F.st (s' := (350, _, _, _)) hj266_343 rfl rfl rfl (hs_if (ci_eq (by omega)) rfl) ?_
                refine hq_F.st (s' := (351, _, _, _)) hj266_350 rfl rfl rfl rfl ?_
                refine hq_F.en hj266_351 rfl rfl ?_
                exact ⟨hC6, ((F1.cov (by decide)).tr ((F2.cov (by decide)).tr ((F3.cov (by decide)).tr ((F4.cov (by decide)).tr ((F5.cov (by decide)).tr (G6.cov (by decide))))))), Or.inr ⟨rfl, k, p, by unfold dy_line; rw [if_pos (show ls_nm t = true from decide_eq_true n1)]; unfold dy_man; rw [lm, ls_br]; show ls_b (dy_m tp B M n t) _ = _; rw [show dy_m tp B M n t = .inr (tq_nx tp B M t) from if_pos (by omega), ls_br]; unfold dy_act; rw [if_pos (by omega)]; exact e6, q6⟩⟩
            · rw [decide_eq_false hk9, show tq_b false = (0 : Int32) from rfl]
              refine hq_F.st (s' := (228, _, _, _)) hj266_221 rfl rfl rfl (hs_if (ci_eq (by omega)) rfl) ?_
              refine hq_F.st (s' := (229, _, _, _)) hj266_228 rfl rfl rfl (hs_al (hg_nr (hg_nr g0 (by decide)) (by decide))) ?_
              refine hq_F.st (s' := (232, _, _, _)) hj266_229 rfl rfl rfl rfl ?_
              refine hq_F.call hj266_232 rfl rfl si_11_206 (by decide) (by decide) sz_178 (sy_argsV h3.1 sh_61 rfl rfl rfl (Nat.le_of_ble_eq_true rfl) rfl (Nat.le_of_ble_eq_true rfl) rfl (by decide)) (ml_isW (k := 10) h3 (by decide) kwx_10) (fun _ _ q => by rw [q.1]) ?_
              rintro r232 w3 ⟨rfl, rfl⟩
              try dsimp only
              by_cases hk10 : ls_k (tq_nx tp B M t) = ((10 : Nat) : Int)
              · rw [decide_eq_true hk10, show tq_b true = (1 : Int32) from rfl]
                have h2k : 2 ≤ (tq_nx tp B M t).1 := by rw [ls_k2 (t := (tq_nx tp B M t)) (by omega)]; omega
                refine hq_F.st (s' := (238, _, _, _)) hj266_235 rfl rfl rfl (hs_ifn (t := 242) (ci_eqn (by omega)) rfl) ?_
                refine hq_F.st (s' := (239, _, _, _)) hj266_238 rfl rfl rfl rfl ?_
                refine hq_F.st (s' := (285, _, _, _)) hj266_239 rfl rfl rfl rfl ?_
                refine hq_F.st (s' := (286, _, _, _)) hj266_285 rfl rfl rfl rfl ?_
                refine hq_F.st (s' := (287, _, _, _)) hj266_286 rfl rfl rfl (hs_iln (pi_get_set _ _ _)) ?_
                refine hq_F.st (s' := (296, _, _, _)) hj266_287 rfl rfl rfl (hs_if (ci_ge (by omega)) rfl) ?_
                refine hq_F.st (s' := (297, _, _, _)) hj266_296 rfl rfl rfl (hs_al (hg_nr (hg_nr (hg_nr g0 (by decide)) (by decide)) (by decide))) ?_
                refine hq_F.st (s' := (300, _, _, _)) hj266_297 rfl rfl rfl (hq_gf h3.1 sh_61 sk_11_40 (hq_ref h3.1 sh_61 (b := 65) rfl)) ?_
                refine hq_F.st (s' := (301, _, _, _)) hj266_300 rfl rfl rfl (hs_iln (hg_ne (hg_ne (pi_get_set _ _ _) (by decide)) (by decide))) ?_
                refine hq_F.st (s' := (302, _, _, _)) hj266_301 rfl rfl rfl (hs_iln (pi_get_set _ _ _)) ?_
                refine sy_isv hj266_302 h3.1 sh_65 (n := 3 * n) (hn_t (by omega)) (by omega) (sy_full (sb_65 _ (by omega))) (fun w4 hC4 hw4 => ?_)
                have F4 := dm_w hw4 (by omega)
                have h4 := h3.fr hC4 F4 rfl
                have D4 := D3.fr F4 (by decide) (by decide)
                refine hq_F.st (s' := (304, _, _, _)) hj266_303 rfl rfl rfl (hs_al (hg_nr (hg_nr (hg_nr g0 (by decide)) (by decide)) (by decide))) ?_
                refine hq_F.call hj266_304 rfl rfl si_11_181 (by decide) (by decide) sz_176 (sy_argsV hC4 sh_61 rfl rfl rfl (Nat.le_of_ble_eq_true rfl) rfl (Nat.le_of_ble_eq_true rfl) rfl (by decide)) (mt_adv (d := d + 2) h4 h2k) (fun _ _ q => by rw [q.2.1.1.1, hC4.1]) ?_
                rintro r304 w5 ⟨rfl, h5, F5⟩
                try dsimp only
                have D5 := D4.fr F5 (by decide) (by decide)
                refine hq_F.st (s' := (308, _, _, _)) hj266_307 rfl rfl rfl (hs_iln (pi_get_set _ _ _)) ?_
                refine hq_F.st (s' := (309, _, _, _)) hj266_308 rfl rfl rfl rfl ?_
                refine hq_F.st (s' := (312, _, _, _)) hj266_309 rfl rfl rfl (hs_icn (t := 346) (ci_gtn (by omega)) rfl) ?_
                refine hq_F.st (s' := (313, _, _, _)) hj266_312 rfl rfl rfl (hs_al (hg_nr (hg_nr (hg_nr g0 (by decide)) (by decide)) (by decide))) ?_
                refine hq_F.st (s' := (314, _, _, _)) hj266_313 rfl rfl rfl (hs_iln (hg_ne (hg_ne (pi_get_set _ _ _) (by decide)) (by decide))) ?_
                refine hq_F.st (s' := (315, _, _, _)) hj266_314 rfl rfl rfl rfl ?_
                refine hq_F.st (s' := (316, _, _, _)) hj266_315 rfl rfl rfl rfl ?_
                rw [hn_2]
                refine hq_F.st (s' := (317, _, _, _)) hj266_316 rfl rfl rfl (hs_iln (pi_get_set _ _ _)) ?_
                refine hq_F.st (s' := (324, _, _, _)) hj266_317 rfl rfl rfl (hs_if (ci_ne (by omega)) rfl) ?_
                refine hq_F.st (s' := (326, _, _, _)) hj266_324 rfl rfl rfl rfl ?_
                refine hq_F.st (s' := (327, _, _, _)) hj266_326 rfl rfl rfl (hs_al (hg_nr (hg_nr (hg_nr g0 (by decide)) (by decide)) (by decide))) ?_
                refine hq_F.st (s' := (330, _, _, _)) hj266_327 rfl rfl rfl (hq_gf h5.1 sh_61 sk_11_33 (hq_ref h5.1 sh_61 (b := 63) rfl)) ?_
                refine hq_F.st (s' := (331, _, _, _)) hj266_330 rfl rfl rfl (hs_iln (pi_get_set _ _ _)) ?_
                refine hq_F.st (s' := (338, _, _, _)) hj266_331 rfl rfl rfl (hs_if (ci_ne (by omega)) rfl) ?_
                refine hq_F.st (s' := (339, _, _, _)) hj266_338 rfl rfl rfl rfl ?_
                refine hq_F.st (s' := (340, _, _, _)) hj266_339 rfl rfl rfl (sy_iav h5.1 hq_s63 (n := 2) (by decide) (by decide)) ?_
                refine hq_F.call hj266_340 rfl rfl si_11_409 (by decide) (by decide) sz_267 (sy_argsV h5.1 sh_61 rfl rfl rfl (Nat.le_of_ble_eq_true rfl) rfl (Nat.le_of_ble_eq_true rfl) rfl (by decide)) (dm_puts (d := d) (so := 2) (j := 3 * n + 2) h5 D5 ho (by omega) (by decide) (D5.2 2 (by omega)) (by show 0 + 10 + nt_c 2 NT ≤ 54; omega) (by omega)) (fun _ _ q => by rw [q.1.1, h5.1.1]) ?_
                rintro r340 w6 ⟨hC6, G6, q⟩
                try dsimp only
                rcases q with ⟨rfl, F6, t6, e6, h6⟩ | ⟨rfl, k, p, e6, q6⟩
                · have D6 := D5.fr F6 (by decide) (by decide)
                  refine hq_F.st (s' := (346, _, _, _)) hj266_343 rfl rfl rfl (hs_ifn (t := 350) (ci_eqn (by omega)) rfl) ?_
                  refine hq_F.st (s' := (347, _, _, _)) hj266_346 rfl rfl rfl rfl ?_
                  refine hq_F.st (s' := (351, _, _, _)) hj266_347 rfl rfl rfl rfl ?_
                  refine hq_F.en hj266_351 rfl rfl ?_
                  exact ⟨hC6, ((F1.cov (by decide)).tr ((F2.cov (by decide)).tr ((F3.cov (by decide)).tr ((F4.cov (by decide)).tr ((F5.cov (by decide)).tr (F6.cov (by decide))))))), Or.inl ⟨rfl, ((F1.cov (by decide)).tr ((F2.cov (by decide)).tr ((F3.cov (by decide)).tr ((F4.cov (by decide)).tr ((F5.cov (by decide)).tr (F6.cov (by decide))))))), t6, by unfold dy_line; rw [if_pos (show ls_nm t = true from decide_eq_true n1)]; unfold dy_man; rw [lm, ls_br]; show ls_b (dy_m tp B M n t) _ = _; rw [show dy_m tp B M n t = .inr (tq_nx tp B M t) from if_pos (by omega), ls_br]; unfold dy_act; rw [if_neg (by omega), if_pos (by omega)]; exact e6, h6⟩⟩
                · skip
                  refine hq_F.st (s' := (350, _, _, _)) hj266_343 rfl rfl rfl (hs_if (ci_eq (by omega)) rfl) ?_
                  refine hq_F.st (s' := (351, _, _, _)) hj266_350 rfl rfl rfl rfl ?_
                  refine hq_F.en hj266_351 rfl rfl ?_
                  exact ⟨hC6, ((F1.cov (by decide)).tr ((F2.cov (by decide)).tr ((F3.cov (by decide)).tr ((F4.cov (by decide)).tr ((F5.cov (by decide)).tr (G6.cov (by decide))))))), Or.inr ⟨rfl, k, p, by unfold dy_line; rw [if_pos (show ls_nm t = true from decide_eq_true n1)]; unfold dy_man; rw [lm, ls_br]; show ls_b (dy_m tp B M n t) _ = _; rw [show dy_m tp B M n t = .inr (tq_nx tp B M t) from if_pos (by omega), ls_br]; unfold dy_act; rw [if_neg (by omega), if_pos (by omega)]; exact e6, q6⟩⟩
              · rw [decide_eq_false hk10, show tq_b false = (0 : Int32) from rfl]
                refine hq_F.st (s' := (242, _, _, _)) hj266_235 rfl rfl rfl (hs_if (ci_eq (by omega)) rfl) ?_
                refine hq_F.st (s' := (243, _, _, _)) hj266_242 rfl rfl rfl (hs_al (hg_nr (hg_nr g0 (by decide)) (by decide))) ?_
                refine hq_F.st (s' := (246, _, _, _)) hj266_243 rfl rfl rfl rfl ?_
                refine hq_F.call hj266_246 rfl rfl si_11_206 (by decide) (by decide) sz_178 (sy_argsV h3.1 sh_61 rfl rfl rfl (Nat.le_of_ble_eq_true rfl) rfl (Nat.le_of_ble_eq_true rfl) rfl (by decide)) (ml_isW (k := 11) h3 (by decide) kwx_11) (fun _ _ q => by rw [q.1]) ?_
                rintro r246 w3 ⟨rfl, rfl⟩
                try dsimp only
                by_cases hk11 : ls_k (tq_nx tp B M t) = ((11 : Nat) : Int)
                · rw [decide_eq_true hk11, show tq_b true = (1 : Int32) from rfl]
                  have h2k : 2 ≤ (tq_nx tp B M t).1 := by rw [ls_k2 (t := (tq_nx tp B M t)) (by omega)]; omega
                  refine hq_F.st (s' := (252, _, _, _)) hj266_249 rfl rfl rfl (hs_ifn (t := 256) (ci_eqn (by omega)) rfl) ?_
                  refine hq_F.st (s' := (253, _, _, _)) hj266_252 rfl rfl rfl rfl ?_
                  refine hq_F.st (s' := (285, _, _, _)) hj266_253 rfl rfl rfl rfl ?_
                  refine hq_F.st (s' := (286, _, _, _)) hj266_285 rfl rfl rfl rfl ?_
                  refine hq_F.st (s' := (287, _, _, _)) hj266_286 rfl rfl rfl (hs_iln (pi_get_set _ _ _)) ?_
                  refine hq_F.st (s' := (296, _, _, _)) hj266_287 rfl rfl rfl (hs_if (ci_ge (by omega)) rfl) ?_
                  refine hq_F.st (s' := (297, _, _, _)) hj266_296 rfl rfl rfl (hs_al (hg_nr (hg_nr (hg_nr g0 (by decide)) (by decide)) (by decide))) ?_
                  refine hq_F.st (s' := (300, _, _, _)) hj266_297 rfl rfl rfl (hq_gf h3.1 sh_61 sk_11_40 (hq_ref h3.1 sh_61 (b := 65) rfl)) ?_
                  refine hq_F.st (s' := (301, _, _, _)) hj266_300 rfl rfl rfl (hs_iln (hg_ne (hg_ne (pi_get_set _ _ _) (by decide)) (by decide))) ?_
                  refine hq_F.st (s' := (302, _, _, _)) hj266_301 rfl rfl rfl (hs_iln (pi_get_set _ _ _)) ?_
                  refine sy_isv hj266_302 h3.1 sh_65 (n := 3 * n) (hn_t (by omega)) (by omega) (sy_full (sb_65 _ (by omega))) (fun w4 hC4 hw4 => ?_)
                  have F4 := dm_w hw4 (by omega)
                  have h4 := h3.fr hC4 F4 rfl
                  have D4 := D3.fr F4 (by decide) (by decide)
                  refine hq_F.st (s' := (304, _, _, _)) hj266_303 rfl rfl rfl (hs_al (hg_nr (hg_nr (hg_nr g0 (by decide)) (by decide)) (by decide))) ?_
                  refine hq_F.call hj266_304 rfl rfl si_11_181 (by decide) (by decide) sz_176 (sy_argsV hC4 sh_61 rfl rfl rfl (Nat.le_of_ble_eq_true rfl) rfl (Nat.le_of_ble_eq_true rfl) rfl (by decide)) (mt_adv (d := d + 2) h4 h2k) (fun _ _ q => by rw [q.2.1.1.1, hC4.1]) ?_
                  rintro r304 w5 ⟨rfl, h5, F5⟩
                  try dsimp only
                  have D5 := D4.fr F5 (by decide) (by decide)
                  refine hq_F.st (s' := (308, _, _, _)) hj266_307 rfl rfl rfl (hs_iln (pi_get_set _ _ _)) ?_
                  refine hq_F.st (s' := (309, _, _, _)) hj266_308 rfl rfl rfl rfl ?_
                  refine hq_F.st (s' := (346, _, _, _)) hj266_309 rfl rfl rfl (hs_ic (ci_gt (by omega)) rfl) ?_
                  refine hq_F.st (s' := (347, _, _, _)) hj266_346 rfl rfl rfl rfl ?_
                  refine hq_F.st (s' := (351, _, _, _)) hj266_347 rfl rfl rfl rfl ?_
                  refine hq_F.en hj266_351 rfl rfl ?_
                  exact ⟨h5.1, ((F1.cov (by decide)).tr ((F2.cov (by decide)).tr ((F3.cov (by decide)).tr ((F4.cov (by decide)).tr (F5.cov (by decide)))))), Or.inl ⟨rfl, ((F1.cov (by decide)).tr ((F2.cov (by decide)).tr ((F3.cov (by decide)).tr ((F4.cov (by decide)).tr (F5.cov (by decide)))))), (tq_nx tp B M (tq_nx tp B M t)), by unfold dy_line; rw [if_pos (show ls_nm t = true from decide_eq_true n1)]; unfold dy_man; rw [lm, ls_br]; show ls_b (dy_m tp B M n t) _ = _; rw [show dy_m tp B M n t = .inr (tq_nx tp B M t) from if_pos (by omega), ls_br]; unfold dy_act; rw [if_neg (by omega), if_neg (by omega)]; exact if_pos (by omega), h5⟩⟩
                · rw [decide_eq_false hk11, show tq_b false = (0 : Int32) from rfl]
                  refine hq_F.st (s' := (256, _, _, _)) hj266_249 rfl rfl rfl (hs_if (ci_eq (by omega)) rfl) ?_
                  refine hq_F.st (s' := (257, _, _, _)) hj266_256 rfl rfl rfl (hs_al (hg_nr (hg_nr g0 (by decide)) (by decide))) ?_
                  refine hq_F.st (s' := (260, _, _, _)) hj266_257 rfl rfl rfl rfl ?_
                  refine hq_F.call hj266_260 rfl rfl si_11_206 (by decide) (by decide) sz_178 (sy_argsV h3.1 sh_61 rfl rfl rfl (Nat.le_of_ble_eq_true rfl) rfl (Nat.le_of_ble_eq_true rfl) rfl (by decide)) (ml_isW (k := 12) h3 (by decide) kwx_12) (fun _ _ q => by rw [q.1]) ?_
                  rintro r260 w3 ⟨rfl, rfl⟩
                  try dsimp only
                  by_cases hk12 : ls_k (tq_nx tp B M t) = ((12 : Nat) : Int)
                  · rw [decide_eq_true hk12, show tq_b true = (1 : Int32) from rfl]
                    have h2k : 2 ≤ (tq_nx tp B M t).1 := by rw [ls_k2 (t := (tq_nx tp B M t)) (by omega)]; omega
                    refine hq_F.st (s' := (266, _, _, _)) hj266_263 rfl rfl rfl (hs_ifn (t := 270) (ci_eqn (by omega)) rfl) ?_
                    refine hq_F.st (s' := (267, _, _, _)) hj266_266 rfl rfl rfl rfl ?_
                    refine hq_F.st (s' := (285, _, _, _)) hj266_267 rfl rfl rfl rfl ?_
                    refine hq_F.st (s' := (286, _, _, _)) hj266_285 rfl rfl rfl rfl ?_
                    refine hq_F.st (s' := (287, _, _, _)) hj266_286 rfl rfl rfl (hs_iln (pi_get_set _ _ _)) ?_
                    refine hq_F.st (s' := (296, _, _, _)) hj266_287 rfl rfl rfl (hs_if (ci_ge (by omega)) rfl) ?_
                    refine hq_F.st (s' := (297, _, _, _)) hj266_296 rfl rfl rfl (hs_al (hg_nr (hg_nr (hg_nr g0 (by decide)) (by decide)) (by decide))) ?_
                    refine hq_F.st (s' := (300, _, _, _)) hj266_297 rfl rfl rfl (hq_gf h3.1 sh_61 sk_11_40 (hq_ref h3.1 sh_61 (b := 65) rfl)) ?_
                    refine hq_F.st (s' := (301, _, _, _)) hj266_300 rfl rfl rfl (hs_iln (hg_ne (hg_ne (pi_get_set _ _ _) (by decide)) (by decide))) ?_
                    refine hq_F.st (s' := (302, _, _, _)) hj266_301 rfl rfl rfl (hs_iln (pi_get_set _ _ _)) ?_
                    refine sy_isv hj266_302 h3.1 sh_65 (n := 3 * n) (hn_t (by omega)) (by omega) (sy_full (sb_65 _ (by omega))) (fun w4 hC4 hw4 => ?_)
                    have F4 := dm_w hw4 (by omega)
                    have h4 := h3.fr hC4 F4 rfl
                    have D4 := D3.fr F4 (by decide) (by decide)
                    refine hq_F.st (s' := (304, _, _, _)) hj266_303 rfl rfl rfl (hs_al (hg_nr (hg_nr (hg_nr g0 (by decide)) (by decide)) (by decide))) ?_
                    refine hq_F.call hj266_304 rfl rfl si_11_181 (by decide) (by decide) sz_176 (sy_argsV hC4 sh_61 rfl rfl rfl (Nat.le_of_ble_eq_true rfl) rfl (Nat.le_of_ble_eq_true rfl) rfl (by decide)) (mt_adv (d := d + 2) h4 h2k) (fun _ _ q => by rw [q.2.1.1.1, hC4.1]) ?_
                    rintro r304 w5 ⟨rfl, h5, F5⟩
                    try dsimp only
                    have D5 := D4.fr F5 (by decide) (by decide)
                    refine hq_F.st (s' := (308, _, _, _)) hj266_307 rfl rfl rfl (hs_iln (pi_get_set _ _ _)) ?_
                    refine hq_F.st (s' := (309, _, _, _)) hj266_308 rfl rfl rfl rfl ?_
                    refine hq_F.st (s' := (346, _, _, _)) hj266_309 rfl rfl rfl (hs_ic (ci_gt (by omega)) rfl) ?_
                    refine hq_F.st (s' := (347, _, _, _)) hj266_346 rfl rfl rfl rfl ?_
                    refine hq_F.st (s' := (351, _, _, _)) hj266_347 rfl rfl rfl rfl ?_
                    refine hq_F.en hj266_351 rfl rfl ?_
                    exact ⟨h5.1, ((F1.cov (by decide)).tr ((F2.cov (by decide)).tr ((F3.cov (by decide)).tr ((F4.cov (by decide)).tr (F5.cov (by decide)))))), Or.inl ⟨rfl, ((F1.cov (by decide)).tr ((F2.cov (by decide)).tr ((F3.cov (by decide)).tr ((F4.cov (by decide)).tr (F5.cov (by decide)))))), (tq_nx tp B M (tq_nx tp B M t)), by unfold dy_line; rw [if_pos (show ls_nm t = true from decide_eq_true n1)]; unfold dy_man; rw [lm, ls_br]; show ls_b (dy_m tp B M n t) _ = _; rw [show dy_m tp B M n t = .inr (tq_nx tp B M t) from if_pos (by omega), ls_br]; unfold dy_act; rw [if_neg (by omega), if_neg (by omega)]; exact if_pos (by omega), h5⟩⟩
                  · rw [decide_eq_false hk12, show tq_b false = (0 : Int32) from rfl]
                    refine hq_F.st (s' := (270, _, _, _)) hj266_263 rfl rfl rfl (hs_if (ci_eq (by omega)) rfl) ?_
                    refine hq_F.st (s' := (271, _, _, _)) hj266_270 rfl rfl rfl (hs_al (hg_nr (hg_nr g0 (by decide)) (by decide))) ?_
                    refine hq_F.st (s' := (274, _, _, _)) hj266_271 rfl rfl rfl rfl ?_
                    refine hq_F.call hj266_274 rfl rfl si_11_206 (by decide) (by decide) sz_178 (sy_argsV h3.1 sh_61 rfl rfl rfl (Nat.le_of_ble_eq_true rfl) rfl (Nat.le_of_ble_eq_true rfl) rfl (by decide)) (ml_isW (k := 13) h3 (by decide) kwx_13) (fun _ _ q => by rw [q.1]) ?_
                    rintro r274 w3 ⟨rfl, rfl⟩
                    try dsimp only
                    by_cases hk13 : ls_k (tq_nx tp B M t) = ((13 : Nat) : Int)
                    · rw [decide_eq_true hk13, show tq_b true = (1 : Int32) from rfl]
                      have h2k : 2 ≤ (tq_nx tp B M t).1 := by rw [ls_k2 (t := (tq_nx tp B M t)) (by omega)]; omega
                      refine hq_F.st (s' := (280, _, _, _)) hj266_277 rfl rfl rfl (hs_ifn (t := 284) (ci_eqn (by omega)) rfl) ?_
                      refine hq_F.st (s' := (281, _, _, _)) hj266_280 rfl rfl rfl rfl ?_
                      refine hq_F.st (s' := (285, _, _, _)) hj266_281 rfl rfl rfl rfl ?_
                      refine hq_F.st (s' := (286, _, _, _)) hj266_285 rfl rfl rfl rfl ?_
                      refine hq_F.st (s' := (287, _, _, _)) hj266_286 rfl rfl rfl (hs_iln (pi_get_set _ _ _)) ?_
                      refine hq_F.st (s' := (296, _, _, _)) hj266_287 rfl rfl rfl (hs_if (ci_ge (by omega)) rfl) ?_
                      refine hq_F.st (s' := (297, _, _, _)) hj266_296 rfl rfl rfl (hs_al (hg_nr (hg_nr (hg_nr g0 (by decide)) (by decide)) (by decide))) ?_
                      refine hq_F.st (s' := (300, _, _, _)) hj266_297 rfl rfl rfl (hq_gf h3.1 sh_61 sk_11_40 (hq_ref h3.1 sh_61 (b := 65) rfl)) ?_
                      refine hq_F.st (s' := (301, _, _, _)) hj266_300 rfl rfl rfl (hs_iln (hg_ne (hg_ne (pi_get_set _ _ _) (by decide)) (by decide))) ?_
                      refine hq_F.st (s' := (302, _, _, _)) hj266_301 rfl rfl rfl (hs_iln (pi_get_set _ _ _)) ?_
                      refine sy_isv hj266_302 h3.1 sh_65 (n := 3 * n) (hn_t (by omega)) (by omega) (sy_full (sb_65 _ (by omega))) (fun w4 hC4 hw4 => ?_)
                      have F4 := dm_w hw4 (by omega)
                      have h4 := h3.fr hC4 F4 rfl
                      have D4 := D3.fr F4 (by decide) (by decide)
                      refine hq_F.st (s' := (304, _, _, _)) hj266_303 rfl rfl rfl (hs_al (hg_nr (hg_nr (hg_nr g0 (by decide)) (by decide)) (by decide))) ?_
                      refine hq_F.call hj266_304 rfl rfl si_11_181 (by decide) (by decide) sz_176 (sy_argsV hC4 sh_61 rfl rfl rfl (Nat.le_of_ble_eq_true rfl) rfl (Nat.le_of_ble_eq_true rfl) rfl (by decide)) (mt_adv (d := d + 2) h4 h2k) (fun _ _ q => by rw [q.2.1.1.1, hC4.1]) ?_
                      rintro r304 w5 ⟨rfl, h5, F5⟩
                      try dsimp only
                      have D5 := D4.fr F5 (by decide) (by decide)
                      refine hq_F.st (s' := (308, _, _, _)) hj266_307 rfl rfl rfl (hs_iln (pi_get_set _ _ _)) ?_
                      refine hq_F.st (s' := (309, _, _, _)) hj266_308 rfl rfl rfl rfl ?_
                      refine hq_F.st (s' := (346, _, _, _)) hj266_309 rfl rfl rfl (hs_ic (ci_gt (by omega)) rfl) ?_
                      refine hq_F.st (s' := (347, _, _, _)) hj266_346 rfl rfl rfl rfl ?_
                      refine hq_F.st (s' := (351, _, _, _)) hj266_347 rfl rfl rfl rfl ?_
                      refine hq_F.en hj266_351 rfl rfl ?_
                      exact ⟨h5.1, ((F1.cov (by decide)).tr ((F2.cov (by decide)).tr ((F3.cov (by decide)).tr ((F4.cov (by decide)).tr (F5.cov (by decide)))))), Or.inl ⟨rfl, ((F1.cov (by decide)).tr ((F2.cov (by decide)).tr ((F3.cov (by decide)).tr ((F4.cov (by decide)).tr (F5.cov (by decide)))))), (tq_nx tp B M (tq_nx tp B M t)), by unfold dy_line; rw [if_pos (show ls_nm t = true from decide_eq_true n1)]; unfold dy_man; rw [lm, ls_br]; show ls_b (dy_m tp B M n t) _ = _; rw [show dy_m tp B M n t = .inr (tq_nx tp B M t) from if_pos (by omega), ls_br]; unfold dy_act; rw [if_neg (by omega), if_neg (by omega)]; exact if_pos (by omega), h5⟩⟩
                    · rw [decide_eq_false hk13, show tq_b false = (0 : Int32) from rfl]
                      refine hq_F.st (s' := (284, _, _, _)) hj266_277 rfl rfl rfl (hs_if (ci_eq (by omega)) rfl) ?_
                      refine hq_F.st (s' := (285, _, _, _)) hj266_284 rfl rfl rfl rfl ?_
                      refine hq_F.st (s' := (286, _, _, _)) hj266_285 rfl rfl rfl rfl ?_
                      refine hq_F.st (s' := (287, _, _, _)) hj266_286 rfl rfl rfl (hs_iln (pi_get_set _ _ _)) ?_
                      refine hq_F.st (s' := (290, _, _, _)) hj266_287 rfl rfl rfl (hs_ifn (t := 296) (ci_gen (by omega)) rfl) ?_
                      refine hq_F.st (s' := (291, _, _, _)) hj266_290 rfl rfl rfl (hs_al (hg_nr (hg_nr (hg_nr g0 (by decide)) (by decide)) (by decide))) ?_
                      refine hq_F.st (s' := (292, _, _, _)) hj266_291 rfl rfl rfl rfl ?_
                      refine hq_F.call hj266_292 rfl rfl si_11_178 (by decide) (by decide) sz_177 (sy_argsV h3.1 sh_61 rfl rfl rfl (Nat.le_of_ble_eq_true rfl) rfl (Nat.le_of_ble_eq_true rfl) rfl (by decide)) (mt_bad h3 ((Int32.ofInt 1))) (fun _ _ q => by rw [q.2.1.1.1, h3.1.1]) ?_
                      rintro r292 w9 ⟨rfl, k1, k2, k3, k4⟩
                      try dsimp only
                      refine hq_F.en hj266_295 rfl rfl ?_
                      exact ⟨k1.1, ((F1.cov (by decide)).tr ((F2.cov (by decide)).tr ((F3.cov (by decide)).tr (k2.cov (by decide))))), Or.inr ⟨rfl, 1, (tq_nx tp B M t).2.1, by unfold dy_line; rw [if_pos (show ls_nm t = true from decide_eq_true n1)]; unfold dy_man; rw [lm, ls_br]; show ls_b (dy_m tp B M n t) _ = _; rw [show dy_m tp B M n t = .inr (tq_nx tp B M t) from if_pos (by omega), ls_br]; unfold dy_act; rw [if_neg (by omega), if_neg (by omega)]; exact if_neg (by omega), ⟨by rw [k3]; decide, k4⟩⟩⟩
          · skip
            refine hq_F.st (s' := (192, _, _, _)) hj266_189 rfl rfl rfl (hs_icn (t := 198) (ci_nen (by omega)) rfl) ?_
            refine hq_F.st (s' := (193, _, _, _)) hj266_192 rfl rfl rfl (hs_al (hg_nr (hg_nr g0 (by decide)) (by decide))) ?_
            refine hq_F.st (s' := (194, _, _, _)) hj266_193 rfl rfl rfl rfl ?_
            refine hq_F.call hj266_194 rfl rfl si_11_178 (by decide) (by decide) sz_177 (sy_argsV h1.1 sh_61 rfl rfl rfl (Nat.le_of_ble_eq_true rfl) rfl (Nat.le_of_ble_eq_true rfl) rfl (by decide)) (mt_bad h1 ((Int32.ofInt 4))) (fun _ _ q => by rw [q.2.1.1.1, h1.1.1]) ?_
            rintro r194 w9 ⟨rfl, k1, k2, k3, k4⟩
            try dsimp only
            refine hq_F.en hj266_197 rfl rfl ?_
            exact ⟨k1.1, ((F1.cov (by decide)).tr (k2.cov (by decide))), Or.inr ⟨rfl, 4, t.2.1, by unfold dy_line; rw [if_pos (show ls_nm t = true from decide_eq_true n1)]; unfold dy_man; rw [lm, ls_br]; show ls_b (dy_m tp B M n t) _ = _; rw [show dy_m tp B M n t = .inl (4, t.2.1) from if_neg (by omega)]; rfl, ⟨by rw [k3]; decide, k4⟩⟩⟩
        · skip
          refine hq_F.st (s' := (181, _, _, _)) hj266_178 rfl rfl rfl (hs_ifn (t := 183) (ci_nen (by omega)) rfl) ?_
          refine hq_F.st (s' := (182, _, _, _)) hj266_181 rfl rfl rfl rfl ?_
          refine hq_F.en hj266_182 rfl rfl ?_
          rcases q with ⟨q1, q2⟩ | ⟨q1, q2, q3⟩
          · exact ⟨h1.1, F1.cov (by decide), Or.inr ⟨rfl, 1, t.2.1, by unfold dy_line; rw [if_neg (show ¬ ls_nm t = true from fun q => q1 (of_decide_eq_true q)), if_neg (by omega), if_neg (by omega)]; exact if_neg (by omega), q2⟩⟩
          · exact ⟨h1.1, F1.cov (by decide), Or.inr ⟨rfl, 3, t.2.1, by unfold dy_line; rw [if_pos (show ls_nm t = true from decide_eq_true q1)]; unfold dy_man; rw [ls_look_3 q1 q2]; rfl, q3⟩⟩
def hs_Z : af_M := [(61, 22, 23), (61, 34, 35), (63, 115, 230), (68, 0, 920), (69, 0, 115), (73, 0, 4)]
def sq_Z (w : pi_W) (_r : Option Value) (w' : pi_W) : Prop := af_Conf aw_Sh w' ∧ af_Fr hs_Z w w'
theorem hz_l2 {d c : Nat} {x1 : Int32} {w0 : pi_W} (hd : 10 ≤ d) (hc : c ≤ 40) (hx1 : 0 ≤ x1.toInt ∧ x1.toInt ≤ 1) : ∀ (m i : Nat) (x2 : Int32) {w : pi_W} {lv : pi_L}, i + m = c → af_Conf aw_Sh w → af_Fr hs_Z w0 w → (∀ j, j < c → tw w j) → af_wloc w 61 32 = some (.int (Int32.ofNat c)) → pi_get lv 0 = some (.ref 61) → pi_get lv 1 = some (.int x1) → pi_get lv 2 = some (.int x2) → pi_get lv 3 = some (.int (Int32.ofNat i)) → hq_F (d + 1) hm270 (sq_Z w0) (111, lv, [], w) := by
  have hi : ∀ u : Int32, (-2147483648 : Int) ≤ u.toInt ∧ u.toInt ≤ 2147483647 := fun u => af_i32 u
  have hend : ∀ {x2 : Int32} {w : pi_W} {lv : pi_L}, af_Conf aw_Sh w → af_Fr hs_Z w0 w → pi_get lv 0 = some (.ref 61) → pi_get lv 1 = some (.int x1) → pi_get lv 2 = some (.int x2) → hq_F (d + 1) hm270 (sq_Z w0) (233, lv, [], w) := by
    intro x2 w lv hC hF g0 g1 g2
    have h2 := hi x2
    have hSat : af_Sat aw_Sh (fun v => if v = 0 then x1.toInt else x2.toInt) dg_s (233, lv, [], w) := by
      refine ⟨?_, trivial, hC, (fun e he => by cases he), ?_, (fun e he => by cases he), (fun e he => by cases he)⟩
      · intro e he
        simp only [dg_s, List.mem_cons, List.not_mem_nil, or_false] at he
        rcases he with rfl | rfl | rfl
        · exact ⟨_, g0, rfl⟩
        · exact ⟨_, g1, (fun v hv => by simp at hv; subst hv; decide), _, rfl, by simp [af_ev]⟩
        · exact ⟨_, g2, (fun v hv => by simp at hv; subst hv; decide), _, rfl, by simp [af_ev]⟩
      · intro e he
        simp only [dg_s, List.mem_cons, List.not_mem_nil, or_false] at he
        rcases he with rfl | rfl <;> refine ⟨by decide, ?_⟩ <;> simp <;> omega
    refine ax_seg (Φ := hq_F _ _ _) (G := dg_G) (d := d) (mi := hm270) (nl := 8) rfl (fun K hK => (dg_h K hK).mono (by omega)) dg_w dg_l dg_r rfl hSat (fun s s' h1 h2 => hq_F.to h1 h2) (fun s hfin => hq_fin hfin (fun r w' hC' hF' _ => ⟨hC', hF.tr (hF'.cov (by decide))⟩)) (fun s' q ρ' hq => absurd hq (by simp [dg_G]))
  intro m
  induction m with
  | zero =>
    intro i x2 w lv hm hC hF ht h32 g0 g1 g2 g3
    refine hq_F.st (s' := (112, _, _, _)) hf270_111 rfl rfl rfl (hs_iln g3) ?_
    refine hq_F.st (s' := (113, _, _, _)) hf270_112 rfl rfl rfl (hs_al g0) ?_
    refine hq_F.st (s' := (116, _, _, _)) hf270_113 rfl rfl rfl (hq_gf hC hq_s61 hk_406 h32) ?_
    refine hq_F.st (s' := (233, _, _, _)) hf270_116 rfl rfl rfl (hs_ic (hc_ge (by rw [hn_t (by omega), hn_t (by omega)]; omega)) rfl) ?_
    exact hend hC hF g0 g1 g2
  | succ m ih =>
    intro i x2 w lv hm hC hF ht h32 g0 g1 g2 g3
    refine hq_F.st (s' := (112, _, _, _)) hf270_111 rfl rfl rfl (hs_iln g3) ?_
    refine hq_F.st (s' := (113, _, _, _)) hf270_112 rfl rfl rfl (hs_al g0) ?_
    refine hq_F.st (s' := (116, _, _, _)) hf270_113 rfl rfl rfl (hq_gf hC hq_s61 hk_406 h32) ?_
    refine hq_F.st (s' := (119, _, _, _)) hf270_116 rfl rfl rfl (hs_icn (t := 233) (hc_gen (by rw [hn_t (by omega), hn_t (by omega)]; omega)) rfl) ?_
    refine hq_F.st (s' := (120, _, _, _)) hf270_119 rfl rfl rfl (hs_iln g2) ?_
    by_cases hx2 : (0 : Int32).toInt ≤ x2.toInt
    · refine hq_F.st (s' := (233, _, _, _)) hf270_120 rfl rfl rfl (hs_if (hc_ge hx2) rfl) ?_
      exact hend hC hF g0 g1 g2
    · refine hq_F.st (s' := (123, _, _, _)) hf270_120 rfl rfl rfl (hs_ifn (t := 233) (hc_gen (by omega)) rfl) ?_
      obtain ⟨a, b, e, t1, t2, t3, t4⟩ := ht i (by omega)
      refine hq_F.st (s' := (124, _, _, _)) hf270_123 rfl rfl rfl rfl ?_
      refine hq_F.st (s' := (125, _, _, _)) hf270_124 rfl rfl rfl (hs_iln g3) ?_
      refine hq_F.st (s' := (126, _, _, _)) hf270_125 rfl rfl rfl hs_m3 ?_
      refine hq_F.st (s' := (128, _, _, _)) hf270_126 rfl rfl rfl (hs_st (by decide)) ?_
      have p0 : pi_get (pi_set lv 4 (.int (Int32.ofNat (3 * i)))) 0 = some (.ref 61) := pi_get_set_ne g0 (by decide) (fun q => (show ¬ ((1 : Nat) = 2) by decide) q.2)
      have p1 : pi_get (pi_set lv 4 (.int (Int32.ofNat (3 * i)))) 1 = some (.int x1) := hg_ne g1 (by decide)
      have p2 : pi_get (pi_set lv 4 (.int (Int32.ofNat (3 * i)))) 2 = some (.int x2) := hg_ne g2 (by decide)
      have p3 : pi_get (pi_set lv 4 (.int (Int32.ofNat (3 * i)))) 3 = some (.int (Int32.ofNat i)) := hg_ne g3 (by decide)
      have p4 : pi_get (pi_set lv 4 (.int (Int32.ofNat (3 * i)))) 4 = some (.int (Int32.ofNat (3 * i))) := pi_get_set _ _ _
      revert p0 p1 p2 p3 p4
      generalize pi_set lv 4 (.int (Int32.ofNat (3 * i))) = lv1
      intro p0 p1 p2 p3 p4
      have hback : ∀ (y2 : Int32) {w' : pi_W} {lv' : pi_L}, af_Conf aw_Sh w' → af_Fr hs_Z w0 w' → (∀ j, j < c → tw w' j) → af_wloc w' 61 32 = some (.int (Int32.ofNat c)) → pi_get lv' 0 = some (.ref 61) → pi_get lv' 1 = some (.int x1) → pi_get lv' 2 = some (.int y2) → pi_get lv' 3 = some (.int (Int32.ofNat i)) → hq_F (d + 1) hm270 (sq_Z w0) (227, lv', [], w') := by
        intro y2 w' lv' hC' hF' ht' h32' q0 q1 q2 q3
        refine hq_F.st (s' := (230, _, _, _)) hf270_227 rfl rfl rfl (hs_inc q3 (by decide)) ?_
        rw [hn_s]
        refine hq_F.st (s' := (111, _, _, _)) hf270_230 rfl rfl rfl rfl ?_
        exact ih (i + 1) y2 (by omega) hC' hF' ht' h32' (pi_get_set_ne q0 (by decide) (fun q => (show ¬ ((1 : Nat) = 2) by decide) q.2)) (hg_ne q1 (by decide)) (hg_ne q2 (by decide)) (pi_get_set _ _ _)
      refine hq_F.st (s' := (129, _, _, _)) hf270_128 rfl rfl rfl (hs_al p0) ?_
      refine hq_F.st (s' := (130, _, _, _)) hf270_129 rfl rfl rfl (hs_al p0) ?_
      refine hq_F.st (s' := (133, _, _, _)) hf270_130 rfl rfl rfl (hq_gf hC hq_s61 hk_40 (hq_ref hC hq_s61 (b := 65) rfl)) ?_
      refine hq_F.st (s' := (135, _, _, _)) hf270_133 rfl rfl rfl (hs_il p4) ?_
      refine hq_F.st (s' := (136, _, _, _)) hf270_135 rfl rfl rfl (hq_ia hC hq_s65 (hn_t (by omega)) t1) ?_
      refine hq_F.st (s' := (137, _, _, _)) hf270_136 rfl rfl rfl (hs_al p0) ?_
      refine hq_F.st (s' := (140, _, _, _)) hf270_137 rfl rfl rfl (hq_gf hC hq_s61 hk_40 (hq_ref hC hq_s61 (b := 65) rfl)) ?_
      refine hq_F.st (s' := (142, _, _, _)) hf270_140 rfl rfl rfl (hs_il p4) ?_
      refine hq_F.st (s' := (143, _, _, _)) hf270_142 rfl rfl rfl rfl ?_
      refine hq_F.st (s' := (144, _, _, _)) hf270_143 rfl rfl rfl hs_p1 ?_
      refine hq_F.st (s' := (145, _, _, _)) hf270_144 rfl rfl rfl (hq_ia hC hq_s65 (hn_t (by omega)) t2) ?_
      refine hq_F.st (s' := (146, _, _, _)) hf270_145 rfl rfl rfl (hs_al p0) ?_
      refine hq_F.st (s' := (149, _, _, _)) hf270_146 rfl rfl rfl (hq_gf hC hq_s61 hk_40 (hq_ref hC hq_s61 (b := 65) rfl)) ?_
      refine hq_F.st (s' := (151, _, _, _)) hf270_149 rfl rfl rfl (hs_il p4) ?_
      refine hq_F.st (s' := (152, _, _, _)) hf270_151 rfl rfl rfl rfl ?_
      refine hq_F.st (s' := (153, _, _, _)) hf270_152 rfl rfl rfl hs_p2 ?_
      refine hq_F.st (s' := (154, _, _, _)) hf270_153 rfl rfl rfl (hq_ia hC hq_s65 (hn_t (by omega)) t3) ?_
      refine hq_F.call hf270_154 rfl rfl hi_415 (by decide) (by decide) pz_268 (hq_args (mz := hm268) hC (As := [.int a, .int b, .int e]) rfl rfl rfl (Nat.zero_le _) rfl (Nat.le_refl _) rfl (by decide)) (hd_why (d := d) (by omega) hC t4) (fun r w' q => by rw [q.1.1, hC.1]) ?_
      rintro r w1 ⟨hC1, hF1, x5, rfl⟩
      have hw1 : ∀ j, af_wloc w1 65 j = af_wloc w 65 j := fun j => hq_cell hF1 (by decide)
      have h321 : af_wloc w1 61 32 = some (.int (Int32.ofNat c)) := (hF1 61 32 (by decide)).trans h32
      have hFY1 : af_Fr hs_Z w0 w1 := hF.tr (hF1.cov (by decide))
      have b2 := hi x2
      have b5 := hi x5
      have hSat : af_Sat aw_Sh (fun v => if v = 0 then x1.toInt else if v = 1 then x2.toInt else if v = 2 then (i : Int) else if v = 3 then ((3 * i : Nat) : Int) else if v = 4 then (c : Int) else x5.toInt) de_s (157, lv1, [.int x5], w1) := by
        refine ⟨?_, ⟨⟨(fun v hv => by simp at hv; subst hv; decide), x5, rfl, by simp [af_ev]⟩, trivial⟩, hC1, ?_, ?_, (fun e he => by cases he), (fun e he => by cases he)⟩
        · intro e he
          simp only [de_s, List.mem_cons, List.not_mem_nil, or_false] at he
          rcases he with rfl | rfl | rfl | rfl | rfl
          · exact ⟨_, p0, rfl⟩
          · exact ⟨_, p1, (fun v hv => by simp at hv; subst hv; decide), _, rfl, by simp [af_ev]⟩
          · exact ⟨_, p2, (fun v hv => by simp at hv; subst hv; decide), _, rfl, by simp [af_ev]⟩
          · exact ⟨_, p3, (fun v hv => by simp at hv; subst hv; decide), _, rfl, by rw [hn_t (by omega)]; simp [af_ev]⟩
          · exact ⟨_, p4, (fun v hv => by simp at hv; subst hv; decide), _, rfl, by rw [hn_t (by omega)]; simp [af_ev]⟩
        · intro e he
          simp only [de_s, List.mem_singleton] at he
          subst he
          exact hl_sl (by intro v hv; simp at hv; subst hv; decide) h321 (by decide) (by rw [hn_t (by omega)]; simp [af_ev])
        · intro e he
          simp only [de_s, List.mem_cons, List.not_mem_nil, or_false] at he
          rcases he with rfl | rfl | rfl | rfl | rfl | rfl <;> refine ⟨by decide, ?_⟩ <;> simp <;> omega
      refine ax_seg (Φ := hq_F _ _ _) (G := de_G) (d := d) (mi := hm270) (nl := 0) rfl (fun K hK => (de_h K hK).mono (by omega)) de_w de_l de_r rfl hSat (fun s s' h1 h2 => hq_F.to h1 h2) (fun s hfin => hq_fin hfin (fun r w' hC' hF' hP' => ?_)) (fun s' q ρ' hq hpc hS hag hF2 => ?_)
      · obtain ⟨P, hPm, -⟩ := hP'
        simp [de_G] at hPm
      · obtain ⟨pc', lv2, st', w2⟩ := s'
        have a0 := hag 0 (by decide)
        have a1 := hag 1 (by decide)
        have a2 := hag 2 (by decide)
        have a3 := hag 3 (by decide)
        simp at a0 a1 a2 a3
        have hw2 : ∀ j, af_wloc w2 65 j = af_wloc w 65 j := fun j => (hq_cell hF2 (by decide)).trans (hw1 j)
        have h322 : af_wloc w2 61 32 = some (.int (Int32.ofNat c)) := (hF2 61 32 (by decide)).trans h321
        have hFY2 : af_Fr hs_Z w0 w2 := hFY1.tr (hF2.cov (by decide))
        have ht2 : ∀ j, j < c → tw w2 j := fun j hj => (ht j hj).fr (fun k _ _ => hw2 k)
        simp only [de_G, List.drop, List.mem_cons, List.not_mem_nil, or_false] at hq
        rcases hq with rfl | rfl
        · dsimp only at hpc hS
          subst hpc
          obtain ⟨hL, hst, hC2, hT, hK⟩ := hS
          replace hC2 : af_Conf aw_Sh w2 := hC2
          dsimp only at hL hst hT hK
          have hstn := af_St.nil hst
          subst hstn
          have q0 := hl_ref hL (i := 0) (k := 61) (by simp)
          obtain ⟨y1, q1, f1⟩ := hl_int hL (i := 1) (f := (0, [0])) (by simp)
          obtain ⟨y2, q2, f2⟩ := hl_int hL (i := 2) (f := (0, [1])) (by simp)
          obtain ⟨y3, q3, f3⟩ := hl_int hL (i := 3) (f := (0, [2])) (by simp)
          obtain ⟨y4, q4, f4⟩ := hl_int hL (i := 4) (f := (0, [3])) (by simp)
          rw [af_ev_1] at f1 f2 f3 f4
          have e1 : y1 = x1 := Int32.toInt_inj.mp (by omega)
          have e2 : y2 = x2 := Int32.toInt_inj.mp (by omega)
          have e3 : y3 = Int32.ofNat i := hn_e (by omega) (by omega)
          have e4 : y4 = Int32.ofNat (3 * i) := hn_e (by omega) (by omega)
          subst e1 e2 e3 e4
          have s1 := (hw2 _).trans t1
          have s2 := (hw2 _).trans t2
          have s3 := (hw2 _).trans t3
          refine hq_F.st (s' := (189, _, _, _)) hf270_188 rfl rfl rfl (hs_al q0) ?_
          refine hq_F.st (s' := (190, _, _, _)) hf270_189 rfl rfl rfl (hs_al q0) ?_
          refine hq_F.st (s' := (193, _, _, _)) hf270_190 rfl rfl rfl (hq_gf hC2 hq_s61 hk_40 (hq_ref hC2 hq_s61 (b := 65) rfl)) ?_
          refine hq_F.st (s' := (195, _, _, _)) hf270_193 rfl rfl rfl (hs_il q4) ?_
          refine hq_F.st (s' := (196, _, _, _)) hf270_195 rfl rfl rfl (hq_ia hC2 hq_s65 (hn_t (by omega)) s1) ?_
          refine hq_F.st (s' := (197, _, _, _)) hf270_196 rfl rfl rfl (hs_al q0) ?_
          refine hq_F.st (s' := (200, _, _, _)) hf270_197 rfl rfl rfl (hq_gf hC2 hq_s61 hk_40 (hq_ref hC2 hq_s61 (b := 65) rfl)) ?_
          refine hq_F.st (s' := (202, _, _, _)) hf270_200 rfl rfl rfl (hs_il q4) ?_
          refine hq_F.st (s' := (203, _, _, _)) hf270_202 rfl rfl rfl rfl ?_
          refine hq_F.st (s' := (204, _, _, _)) hf270_203 rfl rfl rfl hs_p1 ?_
          refine hq_F.st (s' := (205, _, _, _)) hf270_204 rfl rfl rfl (hq_ia hC2 hq_s65 (hn_t (by omega)) s2) ?_
          refine hq_F.st (s' := (206, _, _, _)) hf270_205 rfl rfl rfl (hs_al q0) ?_
          refine hq_F.st (s' := (209, _, _, _)) hf270_206 rfl rfl rfl (hq_gf hC2 hq_s61 hk_40 (hq_ref hC2 hq_s61 (b := 65) rfl)) ?_
          refine hq_F.st (s' := (211, _, _, _)) hf270_209 rfl rfl rfl (hs_il q4) ?_
          refine hq_F.st (s' := (212, _, _, _)) hf270_211 rfl rfl rfl rfl ?_
          refine hq_F.st (s' := (213, _, _, _)) hf270_212 rfl rfl rfl hs_p2 ?_
          refine hq_F.st (s' := (214, _, _, _)) hf270_213 rfl rfl rfl (hq_ia hC2 hq_s65 (hn_t (by omega)) s3) ?_
          refine hq_F.call hf270_214 rfl rfl hi_418 (by decide) (by decide) pz_269 (hq_args (mz := hm269) hC2 (As := [.int a, .int b, .int e]) rfl rfl rfl (Nat.zero_le _) rfl (Nat.le_refl _) rfl (by decide)) (hd_lives (d := d) (by omega) hC2 t4) (fun r w' q => by rw [q.1.1, hC2.1]) ?_
          rintro r w3 ⟨hC3, hF3, rfl⟩
          have h323 : af_wloc w3 61 32 = some (.int (Int32.ofNat c)) := (hF3 61 32 (by decide)).trans h322
          have hSat : af_Sat aw_Sh (fun v => if v = 0 then y1.toInt else if v = 1 then y2.toInt else if v = 2 then (i : Int) else if v = 3 then ((3 * i : Nat) : Int) else (c : Int)) df_s (217, lv2, [], w3) := by
            refine ⟨?_, trivial, hC3, ?_, ?_, (fun e he => by cases he), (fun e he => by cases he)⟩
            · intro e he
              simp only [df_s, List.mem_cons, List.not_mem_nil, or_false] at he
              rcases he with rfl | rfl | rfl | rfl | rfl
              · exact ⟨_, q0, rfl⟩
              · exact ⟨_, q1, (fun v hv => by simp at hv; subst hv; decide), _, rfl, by simp [af_ev]⟩
              · exact ⟨_, q2, (fun v hv => by simp at hv; subst hv; decide), _, rfl, by simp [af_ev]⟩
              · exact ⟨_, q3, (fun v hv => by simp at hv; subst hv; decide), _, rfl, by rw [hn_t (by omega)]; simp [af_ev]⟩
              · exact ⟨_, q4, (fun v hv => by simp at hv; subst hv; decide), _, rfl, by rw [hn_t (by omega)]; simp [af_ev]⟩
            · intro e he
              simp only [df_s, List.mem_singleton] at he
              subst he
              exact hl_sl (by intro v hv; simp at hv; subst hv; decide) h323 (by decide) (by rw [hn_t (by omega)]; simp [af_ev])
            · intro e he
              simp only [df_s, List.mem_cons, List.not_mem_nil, or_false] at he
              rcases he with rfl | rfl | rfl | rfl | rfl <;> refine ⟨by decide, ?_⟩ <;> simp <;> omega
          refine ax_seg (Φ := hq_F _ _ _) (G := df_G) (d := d) (mi := hm270) (nl := 0) rfl (fun K hK => (df_h K hK).mono (by omega)) df_w df_l df_r rfl hSat (fun s s' h1 h2 => hq_F.to h1 h2) (fun s hfin => hq_fin hfin (fun r w' hC' hF' hP' => ?_)) (fun s' q ρ2 hq hpc hS hag2 hF4 => ?_)
          · obtain ⟨P, hPm, -⟩ := hP'
            simp [df_G] at hPm
          · obtain ⟨pc', lv4, st', w4⟩ := s'
            have c0 := hag2 0 (by decide)
            have c1 := hag2 1 (by decide)
            have c2 := hag2 2 (by decide)
            simp at c0 c1 c2
            simp only [df_G, List.drop, List.mem_singleton] at hq
            subst hq
            dsimp only at hpc hS
            subst hpc
            obtain ⟨hL, hst, hC4, hT, hK⟩ := hS
            replace hC4 : af_Conf aw_Sh w4 := hC4
            dsimp only at hL hst hT hK
            have hstn := af_St.nil hst
            subst hstn
            obtain ⟨z1, r1, g1'⟩ := hl_int hL (i := 1) (f := (0, [0])) (by simp)
            obtain ⟨z2, r2, g2'⟩ := hl_int hL (i := 2) (f := (0, [1])) (by simp)
            obtain ⟨z3, r3, g3'⟩ := hl_int hL (i := 3) (f := (0, [2])) (by simp)
            rw [af_ev_1] at g1' g2' g3'
            have e1 : z1 = y1 := Int32.toInt_inj.mp (by omega)
            have e3 : z3 = Int32.ofNat i := hn_e (by omega) (by omega)
            subst e1 e3
            have hw4 : ∀ j, af_wloc w4 65 j = af_wloc w2 65 j := fun j => (hq_cell hF4 (by decide)).trans (hq_cell hF3 (by decide))
            exact hback z2 hC4 (hFY2.tr ((hF3.cov (by decide)).tr (hF4.cov (by decide)))) (fun j hj => (ht2 j hj).fr (fun k _ _ => hw4 k)) ((hF4 61 32 (by decide)).trans h323) (hl_ref hL (by simp)) r1 r2 r3
        · dsimp only at hpc hS
          subst hpc
          obtain ⟨hL, hst, hC2, hT, hK⟩ := hS
          replace hC2 : af_Conf aw_Sh w2 := hC2
          dsimp only at hL hst hT hK
          have hstn := af_St.nil hst
          subst hstn
          obtain ⟨y1, q1, f1⟩ := hl_int hL (i := 1) (f := (0, [0])) (by simp)
          obtain ⟨y2, q2, f2⟩ := hl_int hL (i := 2) (f := (0, [2])) (by simp)
          obtain ⟨y3, q3, f3⟩ := hl_int hL (i := 3) (f := (0, [2])) (by simp)
          rw [af_ev_1] at f1 f2 f3
          have e1 : y1 = x1 := Int32.toInt_inj.mp (by omega)
          have e3 : y3 = Int32.ofNat i := hn_e (by omega) (by omega)
          subst e1 e3
          exact hback y2 hC2 hFY2 ht2 h322 (hl_ref hL (by simp)) q1 q2 q3
theorem dm_end {d c : Nat} {x1 : Int32} {w : pi_W} {lv : pi_L} (hd : 10 ≤ d) (hm : c ≤ 40) (hx1 : 0 ≤ x1.toInt ∧ x1.toInt ≤ 1) (hC : af_Conf aw_Sh w) (ht : ∀ j, j < c → tw w j) (h32 : af_wloc w 61 32 = some (.int (Int32.ofNat c))) (g0 : pi_get lv 0 = some (.ref 61)) (g1 : pi_get lv 1 = some (.int x1)) : hq_F (d + 1) hm270 (sq_Z w) (83, lv, [], w) := by
  have hSat : af_Sat aw_Sh (fun v => if v = 0 then x1.toInt else (c : Int)) dd_s (83, lv, [], w) := by
    refine ⟨?_, trivial, hC, ?_, ?_, (fun e he => by cases he), (fun e he => by cases he)⟩
    · intro e he
      simp only [dd_s, List.mem_cons, List.not_mem_nil, or_false] at he
      rcases he with rfl | rfl
      · exact ⟨_, g0, rfl⟩
      · exact ⟨_, g1, (fun v hv => by simp at hv; subst hv; decide), _, rfl, by simp [af_ev]⟩
    · intro e he
      simp only [dd_s, List.mem_singleton] at he
      subst he
      exact hl_sl (by intro v hv; simp at hv; subst hv; decide) h32 (by decide) (by rw [hn_t (by omega)]; simp [af_ev])
    · intro e he
      simp only [dd_s, List.mem_cons, List.not_mem_nil, or_false] at he
      rcases he with rfl | rfl <;> refine ⟨by decide, ?_⟩ <;> simp <;> omega
  refine ax_seg (Φ := hq_F _ _ _) (G := dd_G) (d := d) (mi := hm270) (nl := 1) rfl (fun K hK => (dd_h K hK).mono (by omega)) dd_w dd_l dd_r rfl hSat (fun s s' h1 h2 => hq_F.to h1 h2) (fun s hfin => hq_fin hfin (fun r w' hC' hF' hP' => ?_)) (fun s' q ρ' hq hpc hS hag hF2 => ?_)
  · obtain ⟨P, hPm, -⟩ := hP'
    simp [dd_G] at hPm
  · obtain ⟨pc', lv2, st', w2⟩ := s'
    have a0 := hag 0 (by decide)
    simp at a0
    simp only [dd_G, List.drop, List.mem_singleton] at hq
    subst hq
    dsimp only at hpc hS
    subst hpc
    obtain ⟨hL, hst, hC2, hT, hK⟩ := hS
    replace hC2 : af_Conf aw_Sh w2 := hC2
    dsimp only at hL hst hT hK
    have hstn := af_St.nil hst
    subst hstn
    obtain ⟨y1, q1, f1⟩ := hl_int hL (i := 1) (f := (0, [0])) (by simp)
    obtain ⟨y2, q2, f2⟩ := hl_int hL (i := 2) (f := (-1, [])) (by simp)
    obtain ⟨y3, q3, f3⟩ := hl_int hL (i := 3) (f := (0, [])) (by simp)
    rw [af_ev_1] at f1
    rw [af_ev_c] at f3
    have e1 : y1 = x1 := Int32.toInt_inj.mp (by omega)
    have e3 : y3 = Int32.ofNat 0 := hn_e (by omega) (by omega)
    subst e1 e3
    exact hz_l2 hd (by omega) hx1 c 0 y2 (by omega) hC2 (hF2.cov (by decide)) (fun j hj => (ht j hj).fr (fun k _ _ => hq_cell hF2 (by decide))) ((hF2 61 32 (by decide)).trans h32) (hl_ref hL (by simp)) q1 q2 q3
theorem dm_tq {c : Nat} {w' : pi_W} (h : tq c (some (.int 1)) w') : c < 40 ∧ tw w' c := by
  rcases h with h | ⟨-, h⟩
  · cases h
  · exact h
theorem dm_no {c : Nat} {w w' : pi_W} (hF : af_Fr (hd_M c) w w') : ∀ j i, ¬ ((j = 61 ∧ 3 ≤ i ∧ i < 19) ∨ (j = 65 ∧ 3 * c ≤ i ∧ i < 3 * c + 3)) → af_wloc w' j i = af_wloc w j i := fun j i h => hF j i (by
  cases hk : af_cov (hd_M c) j i i with
  | false => rfl
  | true =>
    unfold af_cov hd_M at hk
    simp only [List.any_cons, List.any_nil, Bool.or_false, Bool.or_eq_true, Bool.and_eq_true, beq_iff_eq, Nat.ble_eq, Nat.blt_eq] at hk
    exact absurd (by omega) h)
def dm_PL (F : Option (Int × Nat)) (_r : Option Value) (w' : pi_W) : Prop := (F = none ∧ gv w' 61 15 = 0) ∨ ∃ k p, F = some (k, p) ∧ FM w' k p
theorem dm_lnl {d B : Nat} {tp : Nat → Nat} {NT : List nt_E} {x1 : Int32} (ho : nt_ok NT) (hcs : nt_cs NT) (hx1 : 0 ≤ x1.toInt ∧ x1.toInt ≤ 1) : ∀ (f n : Nat) {w : pi_W} {t : tq_T} {lv : pi_L}, n + f = 41 → n ≤ 40 → MT tp B 400 w t → DM w NT → (∀ j, j < n → tw w j) → gv w 61 32 = Int32.ofNat n → af_wloc w 61 32 = some (.int (Int32.ofNat n)) → gv w 61 15 = 0 → pi_get lv 0 = some (.ref 61) → pi_get lv 1 = some (.int x1) → hq_F (d + 11) hm270 (dm_PL (dy_lines tp B 400 NT f n t)) (39, lv, [], w) := by
  intro f
  induction f with
  | zero =>
    intro n w t lv hi hn
    omega
  | succ f ih =>
    intro n w t lv hi hn h hD ht hl h32 hz0 g0 g1
    have hm := tq_mk_c h.2.2.2.2.2.2.1 h.2.2.2.2.1.1
    by_cases hz : t.1 = 0
    · skip
      have kz := sy_z0
      refine hq_F.st (s' := (40, _, _, _)) hf270_39 rfl rfl rfl (hs_al g0) ?_
      refine hq_F.st (s' := (43, _, _, _)) hf270_40 rfl rfl rfl (hq_gf h.1 sh_61 sk_11_152 (sy_v h.1 (by decide) rfl)) ?_
      refine hq_F.st (s' := (83, _, _, _)) hf270_43 rfl rfl rfl (hs_if (ci_eq (by omega)) rfl) ?_
      exact (dm_end (d := d + 10) (by omega) hn hx1 h.1 ht h32 g0 g1).imp (fun r w' q => Or.inl ⟨dy_e0 hz, (gv_eq (q.2 61 15 (by decide))).trans hz0⟩)
    · skip
      have kc0 : (((Int8.ofInt (-2)).toInt32)).toInt = (-2) := by decide
      have kc1 : (((Int8.ofInt 59).toInt32)).toInt = 59 := by decide
      have kc2 : ((0 : Int32)).toInt = 0 := by decide
      have kc3 : ((1 : Int32)).toInt = 1 := by decide
      have kc4 : ((Int32.ofInt 1)).toInt = 1 := by decide
      have kz := sy_z0
      refine hq_F.st (s' := (40, _, _, _)) hf270_39 rfl rfl rfl (hs_al g0) ?_
      refine hq_F.st (s' := (43, _, _, _)) hf270_40 rfl rfl rfl (hq_gf h.1 sh_61 sk_11_152 (sy_v h.1 (by decide) rfl)) ?_
      refine hq_F.st (s' := (46, _, _, _)) hf270_43 rfl rfl rfl (hs_ifn (t := 83) (ci_eqn (by omega)) rfl) ?_
      refine hq_F.st (s' := (47, _, _, _)) hf270_46 rfl rfl rfl (hs_al g0) ?_
      refine hq_F.call hf270_47 rfl rfl si_11_412 (by decide) (by decide) sz_266 (sy_argsV h.1 sh_61 rfl rfl rfl (Nat.le_of_ble_eq_true rfl) rfl (Nat.le_of_ble_eq_true rfl) rfl (by decide)) (hq_both (dm_line (d := d + 6) h hD ho hcs hl (by omega)) (hd_book (d := d + 10) (c := n) (by omega) (by omega) h.1 h32)) (fun _ _ q => by rw [q.1.1.1, h.1.1]) ?_
      rintro r47 w1 ⟨⟨hC1, G1, q⟩, _, H1, hr⟩
      try dsimp only
      rcases q with ⟨rfl, F1, t1, d1, h1⟩ | ⟨rfl, k, p, d1, q1⟩
      · obtain ⟨hc40, htw⟩ := dm_tq hr
        refine hq_F.st (s' := (53, _, _, _)) hf270_50 rfl rfl rfl (hs_ifn (t := 62) (ci_eqn (by omega)) rfl) ?_
        refine hq_F.st (s' := (54, _, _, _)) hf270_53 rfl rfl rfl (hs_al g0) ?_
        refine hq_F.st (s' := (56, _, _, _)) hf270_54 rfl rfl rfl rfl ?_
        refine hq_F.call hf270_56 rfl rfl si_11_241 (by decide) (by decide) sz_180 (sy_argsV hC1 sh_61 rfl rfl rfl (Nat.le_of_ble_eq_true rfl) rfl (Nat.le_of_ble_eq_true rfl) rfl (by decide)) (mt_tkS (d := d + 8) (c := 59) h1 (by decide)) (fun r w' q => by rcases q with ⟨_, _, q, _⟩ | ⟨_, _, q, _⟩; rw [q.1.1, hC1.1]; rw [q.1.1, hC1.1]) ?_
        rintro r56 w2 q
        try dsimp only
        rcases q with ⟨rfl, s2, h2, F2⟩ | ⟨rfl, s2, h2, F2, q2⟩
        · skip
          refine hq_F.st (s' := (70, _, _, _)) hf270_59 rfl rfl rfl (hs_if (ci_ne (by omega)) rfl) ?_
          refine hq_F.st (s' := (71, _, _, _)) hf270_70 rfl rfl rfl (hs_al g0) ?_
          refine hq_F.st (s' := (72, _, _, _)) hf270_71 rfl rfl rfl rfl ?_
          refine hq_F.st (s' := (75, _, _, _)) hf270_72 rfl rfl rfl (hq_gf h2.1 sh_61 sk_11_406 (sy_v h2.1 (by decide) rfl)) ?_
          rw [show gv w2 61 32 = Int32.ofNat n from (gv_eq (F2 61 32 (by decide))).trans ((gv_eq (F1 61 32 (by decide))).trans hl)]
          refine hq_F.st (s' := (76, _, _, _)) hf270_75 rfl rfl rfl rfl ?_
          refine hq_F.st (s' := (77, _, _, _)) hf270_76 rfl rfl rfl rfl ?_
          rw [hn_s]
          have tn1 : (Int32.ofNat (n + 1)).toInt = ((n + 1 : Nat) : Int) := hn_t (by omega)
          refine sy_pf hf270_77 h2.1 sh_61 sk_11_406 (lo := 0) (hi := 40) rfl (by omega) rfl rfl rfl (fun w21 hC21 hw21 => ?_)
          refine hq_F.st (s' := (39, _, _, _)) hf270_80 rfl rfl rfl rfl ?_
          rw [dy_e3 (f := f) hz d1 (decide_eq_true s2)]
          have hno := dm_no H1
          have K2 : af_Fr [(61, 4, 5), (61, 11, 15), (61, 17, 18), (61, 32, 33)] w1 w21 := (F2.cov (by decide)).tr ((wpF hw21).cov (by decide))
          refine ih (n + 1) (by omega) (by omega) (h2.fr hC21 (wpF hw21) rfl) ((hD.fr F1 (by decide) (by decide)).fr K2 (by decide) (by decide)) (fun j hj => ?_) ?_ ?_ ?_ g0 g1
          · have hj2 : tw w1 j := by
              by_cases e : j = n
              · rw [e]
                exact htw
              · exact (ht j (by omega)).fr (fun k _ _ => hno 65 k (by omega))
            exact hj2.fr (fun k _ _ => hq_cell K2 (by decide))
          · rw [wpv hw21, if_pos ⟨rfl, rfl⟩]
          · exact sy_v hC21 (c := 61) (i := 32) (lo := 0) (hi := 40) (by decide) rfl ▸ (by rw [wpv hw21, if_pos ⟨rfl, rfl⟩])
          · exact ((gv_eq (K2 61 15 (by decide))).trans (gv_eq (F1 61 15 (by decide)))).trans hz0
        · skip
          refine hq_F.st (s' := (62, _, _, _)) hf270_59 rfl rfl rfl (hs_ifn (t := 70) (ci_nen (by omega)) rfl) ?_
          refine hq_F.st (s' := (64, _, _, _)) hf270_62 rfl rfl rfl rfl ?_
          refine hq_F.st (s' := (65, _, _, _)) hf270_64 rfl rfl rfl (hs_al g0) ?_
          refine hq_F.st (s' := (68, _, _, _)) hf270_65 rfl rfl rfl (hq_gf h2.1 sh_61 sk_11_172 (sy_v h2.1 (by decide) rfl)) ?_
          refine hq_F.st (s' := (69, _, _, _)) hf270_68 rfl rfl rfl rfl ?_
          refine hq_F.en hf270_69 rfl (pi_ri _) ?_
          exact Or.inr ⟨1, t1.2.1, dy_e2 hz d1 (fun q => s2 (of_decide_eq_true q)), q2⟩
      · skip
        refine hq_F.st (s' := (62, _, _, _)) hf270_50 rfl rfl rfl (hs_if (ci_eq (by omega)) rfl) ?_
        refine hq_F.st (s' := (64, _, _, _)) hf270_62 rfl rfl rfl rfl ?_
        refine hq_F.st (s' := (65, _, _, _)) hf270_64 rfl rfl rfl (hs_al g0) ?_
        refine hq_F.st (s' := (68, _, _, _)) hf270_65 rfl rfl rfl (hq_gf hC1 sh_61 sk_11_172 (sy_v hC1 (by decide) rfl)) ?_
        refine hq_F.st (s' := (69, _, _, _)) hf270_68 rfl rfl rfl rfl ?_
        refine hq_F.en hf270_69 rfl (pi_ri _) ?_
        exact Or.inr ⟨k, p, dy_e1 hz d1, q1⟩
/-- what diary of the model leaves as FAULT -/
def dm_Q (tp : Nat → Nat) (B : Nat) (NT : List nt_E) (x : Int32) (w : pi_W) (_r : Option Value) (w' : pi_W) : Prop := (¬ (0 ≤ x.toInt ∧ x.toInt ≤ 1) ∧ gv w' 61 15 = gv w 61 15) ∨ ((0 ≤ x.toInt ∧ x.toInt ≤ 1) ∧ dm_PL (dy_lines tp B 400 NT 41 0 (tq_tok tp B 400 0)) none w')
theorem ml_tkn4 {d : Nat} {w : pi_W} {x : Int32} (hC : af_Conf aw_Sh w) (hx : x.toInt = 400) : hq_F d sm166 (fun r w' => r = none ∧ af_Conf aw_Sh w' ∧ af_Fr [(61, 2, 6)] w w' ∧ gv w' 61 3 = gv w 61 2 ∧ (gv w' 61 4).toInt = 0 ∧ (gv w' 61 5).toInt = 400) (0, lv_args 0 [.ref 61, .int x], [], w) := by
  have hb2 := sy_b hC (c := 61) (i := 2) (lo := 0) (hi := 940) (by decide) rfl
  have g0 : pi_get (lv_args 0 [.ref 61, .int x]) 0 = some (.ref 61) := rfl
  have g1 : pi_get (lv_args 0 [.ref 61, .int x]) 1 = some (.int x) := rfl
  have kc0 : ((Int32.ofInt 0)).toInt = 0 := by decide
  have kz := sy_z0
  refine hq_F.st (s' := (1, _, _, _)) hg166_0 rfl rfl rfl (hs_al g0) ?_
  refine hq_F.st (s' := (2, _, _, _)) hg166_1 rfl rfl rfl (hs_al g0) ?_
  refine hq_F.st (s' := (5, _, _, _)) hg166_2 rfl rfl rfl (hq_gf hC sh_61 sk_11_7 (sy_v hC (by decide) rfl)) ?_
  refine sy_pf hg166_5 hC sh_61 sk_11_18 (lo := 0) (hi := 940) rfl (by omega) rfl rfl rfl (fun w1 hC1 hw1 => ?_)
  refine hq_F.st (s' := (9, _, _, _)) hg166_8 rfl rfl rfl (hs_al g0) ?_
  refine hq_F.st (s' := (10, _, _, _)) hg166_9 rfl rfl rfl rfl ?_
  refine sy_pf hg166_10 hC1 sh_61 sk_11_7 (lo := 0) (hi := 940) rfl (by omega) rfl rfl rfl (fun w2 hC2 hw2 => ?_)
  refine hq_F.st (s' := (14, _, _, _)) hg166_13 rfl rfl rfl (hs_al g0) ?_
  refine hq_F.st (s' := (15, _, _, _)) hg166_14 rfl rfl rfl rfl ?_
  refine sy_pf hg166_15 hC2 sh_61 sk_11_21 (lo := 0) (hi := 940) rfl (by omega) rfl rfl rfl (fun w3 hC3 hw3 => ?_)
  refine hq_F.st (s' := (19, _, _, _)) hg166_18 rfl rfl rfl (hs_al g0) ?_
  refine hq_F.st (s' := (20, _, _, _)) hg166_19 rfl rfl rfl (hs_iln g1) ?_
  refine sy_pf hg166_20 hC3 sh_61 sk_11_24 (lo := 0) (hi := 900) rfl (by omega) rfl rfl rfl (fun w4 hC4 hw4 => ?_)
  refine hq_F.en hg166_23 rfl rfl ?_
  exact ⟨rfl, hC4, (((wpF hw1).cov (by decide)).tr (((wpF hw2).cov (by decide)).tr (((wpF hw3).cov (by decide)).tr ((wpF hw4).cov (by decide))))), by rw [wpv hw4, if_neg (by decide), wpv hw3, if_neg (by decide), wpv hw2, if_neg (by decide), wpv hw1, if_pos ⟨rfl, rfl⟩], by rw [wpv hw4, if_neg (by decide), wpv hw3, if_pos ⟨rfl, rfl⟩]; decide, by rw [wpv hw4, if_pos ⟨rfl, rfl⟩]; exact hx⟩
theorem dm_diary {d B : Nat} {tp : Nat → Nat} {NT : List nt_E} {w : pi_W} {x : Int32} (hC : af_Conf aw_Sh w) (hB : (gv w 61 2).toInt = (B : Int)) (ht : ∀ n, n < 940 → (tm_b w n).toInt = (tp n : Int)) (hV : tq_Vm w) (hD : DM w NT) (ho : nt_ok NT) (hcs : nt_cs NT) : hq_F (d + 11) hm270 (dm_Q tp B NT x w) (0, lv_args 0 [.ref 61, .int x], [], w) := by
  have hB9 : B ≤ 940 := by
    have := sy_b hC (c := 61) (i := 2) (lo := 0) (hi := 940) (by decide) rfl
    omega
  have g0 : pi_get (lv_args 0 [.ref 61, .int x]) 0 = some (.ref 61) := rfl
  have g1 : pi_get (lv_args 0 [.ref 61, .int x]) 1 = some (.int x) := rfl
  have kc0 : (((Int16.ofInt (-1000)).toInt32)).toInt = (-1000) := by decide
  have kc1 : (((Int16.ofInt 400).toInt32)).toInt = 400 := by decide
  have kc2 : ((0 : Int32)).toInt = 0 := by decide
  have kc3 : ((1 : Int32)).toInt = 1 := by decide
  have kc4 : ((Int32.ofInt 0)).toInt = 0 := by decide
  have kc5 : ((Int32.ofInt 1)).toInt = 1 := by decide
  have kz := sy_z0
  refine hq_F.st (s' := (1, _, _, _)) hf270_0 rfl rfl rfl (hs_al g0) ?_
  refine hq_F.st (s' := (2, _, _, _)) hf270_1 rfl rfl rfl rfl ?_
  refine sy_pf hf270_2 hC sh_61 sk_11_1 (lo := -2147483648) (hi := 2147483647) rfl (af_i32 _) rfl rfl rfl (fun w21 hC21 hw21 => ?_)
  refine hq_F.st (s' := (6, _, _, _)) hf270_5 rfl rfl rfl (hs_iln g1) ?_
  refine hq_F.st (s' := (7, _, _, _)) hf270_6 rfl rfl rfl rfl ?_
  refine hq_F.st (s' := (8, _, _, _)) hf270_7 rfl rfl rfl rfl ?_
  refine hq_F.call hf270_8 rfl rfl si_11_184 (by decide) (by decide) sz_167 (sy_argsS rfl rfl rfl (Nat.le_of_ble_eq_true rfl) (by decide) rfl (Nat.le_of_ble_eq_true rfl) (by decide)) (mt_in (x := x) (y := (Int32.ofInt 0)) (z := (Int32.ofInt 1))) (fun _ _ q => by rw [q.1]) ?_
  rintro r8 w21 ⟨rfl, rfl⟩
  try dsimp only
  by_cases hin : ((Int32.ofInt 0)).toInt ≤ x.toInt ∧ x.toInt ≤ ((Int32.ofInt 1)).toInt
  · rw [decide_eq_true hin, show tq_b true = (1 : Int32) from rfl]
    refine hq_F.st (s' := (18, _, _, _)) hf270_11 rfl rfl rfl (hs_if (ci_ne (by omega)) rfl) ?_
    refine hq_F.st (s' := (19, _, _, _)) hf270_18 rfl rfl rfl (hs_al g0) ?_
    refine hq_F.st (s' := (22, _, _, _)) hf270_19 rfl rfl rfl rfl ?_
    refine hq_F.call hf270_22 rfl rfl si_11_232 (by decide) (by decide) sz_166 (sy_argsV hC21 sh_61 rfl rfl rfl (Nat.le_of_ble_eq_true rfl) rfl (Nat.le_of_ble_eq_true rfl) rfl (by decide)) (ml_tkn4 hC21 (by decide)) (fun _ _ q => by rw [q.2.1.1, hC21.1]) ?_
    rintro r22 wt ⟨rfl, hCt, Ft, t3, t4, t5⟩
    try dsimp only
    refine hq_F.st (s' := (26, _, _, _)) hf270_25 rfl rfl rfl (hs_al g0) ?_
    refine hq_F.st (s' := (27, _, _, _)) hf270_26 rfl rfl rfl rfl ?_
    refine sy_pf hf270_27 hCt sh_61 sk_11_169 (lo := -2147483648) (hi := 2147483647) rfl (af_i32 _) rfl rfl rfl (fun w22 hC22 hw22 => ?_)
    refine hq_F.st (s' := (31, _, _, _)) hf270_30 rfl rfl rfl (hs_al g0) ?_
    refine hq_F.st (s' := (32, _, _, _)) hf270_31 rfl rfl rfl rfl ?_
    refine sy_pf hf270_32 hC22 sh_61 sk_11_406 (lo := 0) (hi := 40) rfl (by omega) rfl rfl rfl (fun w23 hC23 hw23 => ?_)
    have FA : af_Fr [(61, 0, 1), (61, 2, 6), (61, 15, 16), (61, 32, 33)] w w23 := (((wpF hw21).cov (by decide)).tr (((Ft).cov (by decide)).tr (((wpF hw22).cov (by decide)).tr ((wpF hw23).cov (by decide)))))
    have a3 : (gv w23 61 3).toInt = (B : Int) := by rw [wpv hw23, if_neg (by decide), wpv hw22, if_neg (by decide), t3, wpv hw21, if_neg (by decide)]; exact hB
    have a4 : (gv w23 61 4).toInt = ((0 : Nat) : Int) := by rw [wpv hw23, if_neg (by decide), wpv hw22, if_neg (by decide)]; exact t4
    have a5 : (gv w23 61 5).toInt = ((400 : Nat) : Int) := by rw [wpv hw23, if_neg (by decide), wpv hw22, if_neg (by decide)]; exact t5
    have a32 : gv w23 61 32 = Int32.ofNat 0 := by rw [wpv hw23, if_pos ⟨rfl, rfl⟩]; rfl
    have a15 : gv w23 61 15 = 0 := by rw [wpv hw23, if_neg (by decide), wpv hw22, if_pos ⟨rfl, rfl⟩]; rfl
    have hPz : tm_P tp B w23 := ⟨a3, hB9, fun n hn => by unfold tm_b; rw [gv_eq (hq_cell FA (by decide))]; exact ht n hn⟩
    have hVz : tq_Vm w23 := fun k hk => by rw [gl_eq (hq_cell FA (by decide))]; exact hV k hk
    refine hq_F.st (s' := (36, _, _, _)) hf270_35 rfl rfl rfl (hs_al g0) ?_
    refine hq_F.call hf270_36 rfl rfl si_11_181 (by decide) (by decide) sz_176 (sy_argsV hC23 sh_61 rfl rfl rfl (Nat.le_of_ble_eq_true rfl) rfl (Nat.le_of_ble_eq_true rfl) rfl (by decide)) (tm_176 (d := d + 9) (i := 0) hC23 hPz a5 a4 (by omega)) (fun _ _ q => by rw [q.2.1.1, hC23.1]) ?_
    rintro r36 w6 ⟨rfl, hC6, F6, A6⟩
    try dsimp only
    have hM6 : MT tp B 400 w6 (tq_tok tp B 400 0) := ⟨hC6, hPz.fr F6 (by decide) (by decide), by rw [gv_eq (F6 61 5 (by decide))]; exact a5, fun k hk => by rw [gl_eq (hq_cell F6 (by decide))]; exact hVz k hk, tm_ok (tq_sk_le (Nat.zero_le _)).2 A6, tq_tok_W (Nat.zero_le _)⟩
    have b32 : gv w6 61 32 = Int32.ofNat 0 := (gv_eq (F6 61 32 (by decide))).trans a32
    exact (dm_lnl (d := d) ho hcs (by omega) 41 0 (by omega) (by omega) hM6 ((hD.fr FA (by decide) (by decide)).fr F6 (by decide) (by decide)) (fun j hj => by omega) b32 (by rw [sy_v hC6 (c := 61) (i := 32) (lo := 0) (hi := 40) (by decide) rfl, b32]) ((gv_eq (F6 61 15 (by decide))).trans a15) g0 g1).imp (fun r w' q => Or.inr ⟨by omega, q⟩)
  · rw [decide_eq_false hin, show tq_b false = (0 : Int32) from rfl]
    refine hq_F.st (s' := (14, _, _, _)) hf270_11 rfl rfl rfl (hs_ifn (t := 18) (ci_nen (by omega)) rfl) ?_
    refine hq_F.st (s' := (17, _, _, _)) hf270_14 rfl rfl rfl rfl ?_
    refine hq_F.en hf270_17 rfl rfl ?_
    exact Or.inl ⟨fun q => hin (by omega), by rw [wpv hw21, if_neg (by decide)]⟩
