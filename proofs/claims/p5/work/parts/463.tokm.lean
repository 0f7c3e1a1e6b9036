/-! ===== the model reads TOKENS; by program ===== -/
theorem sk_11_14 : pi_look pi_fT 11 14 = some (11, 1, 1248) := rfl
theorem sk_11_146 : pi_look pi_fT 11 146 = some (11, 12, 1259) := rfl
theorem sk_11_149 : pi_look pi_fT 11 149 = some (11, 13, 1260) := rfl
theorem sk_11_152 : pi_look pi_fT 11 152 = some (11, 11, 1258) := rfl
theorem sk_11_162 : pi_look pi_fT 11 162 = some (11, 14, 1261) := rfl
theorem sk_11_165 : pi_look pi_fT 11 165 = some (11, 17, 1264) := rfl
theorem sk_11_18 : pi_look pi_fT 11 18 = some (11, 3, 1250) := rfl
theorem sk_11_21 : pi_look pi_fT 11 21 = some (11, 4, 1251) := rfl
theorem sk_11_24 : pi_look pi_fT 11 24 = some (11, 5, 1252) := rfl
theorem si_11_142 : pi_look pi_iT 11 142 = some (2, 173, 0, 1396) := rfl
theorem si_11_155 : pi_look pi_iT 11 155 = some (0, 174, 1, 1400) := rfl
theorem si_11_159 : pi_look pi_iT 11 159 = some (0, 175, 1, 1403) := rfl
def sm173 : pi_M := (11, 1, (some .int), false, mc_173)
def sm174 : pi_M := (11, 1, (some .boolean), false, mc_174)
def sm175 : pi_M := (11, 1, (some .boolean), false, mc_175)
def sm176 : pi_M := (11, 4, none, false, mc_176)
def sf_61 : List (Nat ⊕ (Int × Int) ⊕ Unit) := match (aw_Sh[61]? : Option af_C) with
  | some (.inr (_, f)) => f
  | _ => []
theorem sh_61 : aw_Sh[61]? = some (.inr (11, sf_61)) := rfl
def sf_62 : List (Nat × Int × Int) := match (aw_Sh[62]? : Option af_C) with
  | some (.inl (_, _, S)) => S
  | _ => []
theorem sh_62 : aw_Sh[62]? = some (.inl (1, 940, sf_62)) := rfl
set_option maxRecDepth 100000 in
theorem sz_173 : pi_mt[173]? = some (mn_173, prog_13_method_13_code, (11, 1, (some .int), false, mc_173)) := rfl
set_option maxRecDepth 100000 in
theorem sz_174 : pi_mt[174]? = some (mn_174, prog_13_method_14_code, (11, 1, (some .boolean), false, mc_174)) := rfl
set_option maxRecDepth 100000 in
theorem sz_175 : pi_mt[175]? = some (mn_175, prog_13_method_15_code, (11, 1, (some .boolean), false, mc_175)) := rfl
set_option maxRecDepth 100000 in
theorem sz_176 : pi_mt[176]? = some (mn_176, prog_13_method_16_code, (11, 4, none, false, mc_176)) := rfl
theorem hg173_0 : pi_fetch mc_173 0 = some (.aload_n 0, 1) := rfl
theorem hg173_1 : pi_fetch mc_173 1 = some (.getfield 21, 3) := rfl
theorem hg173_4 : pi_fetch mc_173 4 = some (.aload_n 0, 1) := rfl
theorem hg173_5 : pi_fetch mc_173 5 = some (.getfield 18, 3) := rfl
theorem hg173_8 : pi_fetch mc_173 8 = some (.if_icmp .ge 19, 3) := rfl
theorem hg173_11 : pi_fetch mc_173 11 = some (.aload_n 0, 1) := rfl
theorem hg173_12 : pi_fetch mc_173 12 = some (.getfield 14, 3) := rfl
theorem hg173_15 : pi_fetch mc_173 15 = some (.aload_n 0, 1) := rfl
theorem hg173_16 : pi_fetch mc_173 16 = some (.getfield 21, 3) := rfl
theorem hg173_19 : pi_fetch mc_173 19 = some (.baload, 1) := rfl
theorem hg173_20 : pi_fetch mc_173 20 = some (.sipush 255, 3) := rfl
theorem hg173_23 : pi_fetch mc_173 23 = some (.iand, 1) := rfl
theorem hg173_24 : pi_fetch mc_173 24 = some (.goto 4, 3) := rfl
theorem hg173_27 : pi_fetch mc_173 27 = some (.iconst (-1), 1) := rfl
theorem hg173_28 : pi_fetch mc_173 28 = some (.ireturn, 1) := rfl
theorem hg176_0 : pi_fetch mc_176 0 = some (.aload_n 0, 1) := rfl
theorem hg176_1 : pi_fetch mc_176 1 = some (.invokevirtual 142, 3) := rfl
theorem hg176_4 : pi_fetch mc_176 4 = some (.bipush 32, 2) := rfl
theorem hg176_6 : pi_fetch mc_176 6 = some (.if_icmp .eq 12, 3) := rfl
theorem hg176_9 : pi_fetch mc_176 9 = some (.aload_n 0, 1) := rfl
theorem hg176_10 : pi_fetch mc_176 10 = some (.invokevirtual 142, 3) := rfl
theorem hg176_13 : pi_fetch mc_176 13 = some (.bipush 10, 2) := rfl
theorem hg176_15 : pi_fetch mc_176 15 = some (.if_icmp .ne 16, 3) := rfl
theorem hg176_18 : pi_fetch mc_176 18 = some (.aload_n 0, 1) := rfl
theorem hg176_19 : pi_fetch mc_176 19 = some (.dup, 1) := rfl
theorem hg176_20 : pi_fetch mc_176 20 = some (.getfield 21, 3) := rfl
theorem hg176_23 : pi_fetch mc_176 23 = some (.iconst 1, 1) := rfl
theorem hg176_24 : pi_fetch mc_176 24 = some (.iadd, 1) := rfl
theorem hg176_25 : pi_fetch mc_176 25 = some (.putfield 21, 3) := rfl
theorem hg176_28 : pi_fetch mc_176 28 = some (.goto (-28), 3) := rfl
theorem hg176_31 : pi_fetch mc_176 31 = some (.aload_n 0, 1) := rfl
theorem hg176_32 : pi_fetch mc_176 32 = some (.aload_n 0, 1) := rfl
theorem hg176_33 : pi_fetch mc_176 33 = some (.getfield 21, 3) := rfl
theorem hg176_36 : pi_fetch mc_176 36 = some (.putfield 146, 3) := rfl
theorem hg176_39 : pi_fetch mc_176 39 = some (.aload_n 0, 1) := rfl
theorem hg176_40 : pi_fetch mc_176 40 = some (.iconst 0, 1) := rfl
theorem hg176_41 : pi_fetch mc_176 41 = some (.putfield 149, 3) := rfl
theorem hg176_44 : pi_fetch mc_176 44 = some (.aload_n 0, 1) := rfl
theorem hg176_45 : pi_fetch mc_176 45 = some (.getfield 18, 3) := rfl
theorem hg176_48 : pi_fetch mc_176 48 = some (.aload_n 0, 1) := rfl
theorem hg176_49 : pi_fetch mc_176 49 = some (.getfield 24, 3) := rfl
theorem hg176_52 : pi_fetch mc_176 52 = some (.if_icmp .le 28, 3) := rfl
theorem hg176_55 : pi_fetch mc_176 55 = some (.aload_n 0, 1) := rfl
theorem hg176_56 : pi_fetch mc_176 56 = some (.getfield 21, 3) := rfl
theorem hg176_59 : pi_fetch mc_176 59 = some (.aload_n 0, 1) := rfl
theorem hg176_60 : pi_fetch mc_176 60 = some (.getfield 24, 3) := rfl
theorem hg176_63 : pi_fetch mc_176 63 = some (.if_icmp .lt 17, 3) := rfl
theorem hg176_66 : pi_fetch mc_176 66 = some (.aload_n 0, 1) := rfl
theorem hg176_67 : pi_fetch mc_176 67 = some (.aload_n 0, 1) := rfl
theorem hg176_68 : pi_fetch mc_176 68 = some (.getfield 24, 3) := rfl
theorem hg176_71 : pi_fetch mc_176 71 = some (.putfield 146, 3) := rfl
theorem hg176_74 : pi_fetch mc_176 74 = some (.aload_n 0, 1) := rfl
theorem hg176_75 : pi_fetch mc_176 75 = some (.iconst 4, 1) := rfl
theorem hg176_76 : pi_fetch mc_176 76 = some (.putfield 152, 3) := rfl
theorem hg176_79 : pi_fetch mc_176 79 = some (.return_, 1) := rfl
theorem hg176_80 : pi_fetch mc_176 80 = some (.aload_n 0, 1) := rfl
theorem hg176_81 : pi_fetch mc_176 81 = some (.invokevirtual 142, 3) := rfl
theorem hg176_84 : pi_fetch mc_176 84 = some (.istore_n 1, 1) := rfl
theorem hg176_85 : pi_fetch mc_176 85 = some (.iload_n 1, 1) := rfl
theorem hg176_86 : pi_fetch mc_176 86 = some (.ifCond .ge 9, 3) := rfl
theorem hg176_89 : pi_fetch mc_176 89 = some (.aload_n 0, 1) := rfl
theorem hg176_90 : pi_fetch mc_176 90 = some (.iconst 0, 1) := rfl
theorem hg176_91 : pi_fetch mc_176 91 = some (.putfield 152, 3) := rfl
theorem hg176_94 : pi_fetch mc_176 94 = some (.return_, 1) := rfl
theorem hg176_95 : pi_fetch mc_176 95 = some (.iload_n 1, 1) := rfl
theorem hg176_96 : pi_fetch mc_176 96 = some (.invokestatic 155, 3) := rfl
theorem hg176_99 : pi_fetch mc_176 99 = some (.ifCond .ne 65, 3) := rfl
theorem hg176_102 : pi_fetch mc_176 102 = some (.iload_n 1, 1) := rfl
theorem hg176_103 : pi_fetch mc_176 103 = some (.invokestatic 159, 3) := rfl
theorem hg176_106 : pi_fetch mc_176 106 = some (.ifCond .ne 58, 3) := rfl
theorem hg176_109 : pi_fetch mc_176 109 = some (.aload_n 0, 1) := rfl
theorem hg176_110 : pi_fetch mc_176 110 = some (.iload_n 1, 1) := rfl
theorem hg176_111 : pi_fetch mc_176 111 = some (.bipush 59, 2) := rfl
theorem hg176_113 : pi_fetch mc_176 113 = some (.if_icmp .eq 27, 3) := rfl
theorem hg176_116 : pi_fetch mc_176 116 = some (.iload_n 1, 1) := rfl
theorem hg176_117 : pi_fetch mc_176 117 = some (.bipush 40, 2) := rfl
theorem hg176_119 : pi_fetch mc_176 119 = some (.if_icmp .eq 21, 3) := rfl
theorem hg176_122 : pi_fetch mc_176 122 = some (.iload_n 1, 1) := rfl
theorem hg176_123 : pi_fetch mc_176 123 = some (.bipush 41, 2) := rfl
theorem hg176_125 : pi_fetch mc_176 125 = some (.if_icmp .eq 15, 3) := rfl
theorem hg176_128 : pi_fetch mc_176 128 = some (.iload_n 1, 1) := rfl
theorem hg176_129 : pi_fetch mc_176 129 = some (.bipush 60, 2) := rfl
theorem hg176_131 : pi_fetch mc_176 131 = some (.if_icmp .lt 13, 3) := rfl
theorem hg176_134 : pi_fetch mc_176 134 = some (.iload_n 1, 1) := rfl
theorem hg176_135 : pi_fetch mc_176 135 = some (.bipush 62, 2) := rfl
theorem hg176_137 : pi_fetch mc_176 137 = some (.if_icmp .gt 7, 3) := rfl
theorem hg176_140 : pi_fetch mc_176 140 = some (.iconst 3, 1) := rfl
theorem hg176_141 : pi_fetch mc_176 141 = some (.goto 4, 3) := rfl
theorem hg176_144 : pi_fetch mc_176 144 = some (.iconst 4, 1) := rfl
theorem hg176_145 : pi_fetch mc_176 145 = some (.putfield 152, 3) := rfl
theorem hg176_148 : pi_fetch mc_176 148 = some (.aload_n 0, 1) := rfl
theorem hg176_149 : pi_fetch mc_176 149 = some (.iload_n 1, 1) := rfl
theorem hg176_150 : pi_fetch mc_176 150 = some (.putfield 162, 3) := rfl
theorem hg176_153 : pi_fetch mc_176 153 = some (.aload_n 0, 1) := rfl
theorem hg176_154 : pi_fetch mc_176 154 = some (.dup, 1) := rfl
theorem hg176_155 : pi_fetch mc_176 155 = some (.getfield 21, 3) := rfl
theorem hg176_158 : pi_fetch mc_176 158 = some (.iconst 1, 1) := rfl
theorem hg176_159 : pi_fetch mc_176 159 = some (.iadd, 1) := rfl
theorem hg176_160 : pi_fetch mc_176 160 = some (.putfield 21, 3) := rfl
theorem hg176_163 : pi_fetch mc_176 163 = some (.return_, 1) := rfl
theorem hg176_164 : pi_fetch mc_176 164 = some (.iload_n 1, 1) := rfl
theorem hg176_165 : pi_fetch mc_176 165 = some (.invokestatic 155, 3) := rfl
theorem hg176_168 : pi_fetch mc_176 168 = some (.istore_n 2, 1) := rfl
theorem hg176_169 : pi_fetch mc_176 169 = some (.iconst 1, 1) := rfl
theorem hg176_170 : pi_fetch mc_176 170 = some (.istore_n 3, 1) := rfl
theorem hg176_171 : pi_fetch mc_176 171 = some (.aload_n 0, 1) := rfl
theorem hg176_172 : pi_fetch mc_176 172 = some (.lconst 0, 1) := rfl
theorem hg176_173 : pi_fetch mc_176 173 = some (.putfield 165, 3) := rfl
theorem hg176_176 : pi_fetch mc_176 176 = some (.aload_n 0, 1) := rfl
theorem hg176_177 : pi_fetch mc_176 177 = some (.iconst 0, 1) := rfl
theorem hg176_178 : pi_fetch mc_176 178 = some (.putfield 162, 3) := rfl
theorem hg176_181 : pi_fetch mc_176 181 = some (.aload_n 0, 1) := rfl
theorem hg176_182 : pi_fetch mc_176 182 = some (.invokevirtual 142, 3) := rfl
theorem hg176_185 : pi_fetch mc_176 185 = some (.invokestatic 155, 3) := rfl
theorem hg176_188 : pi_fetch mc_176 188 = some (.ifCond .ne 13, 3) := rfl
theorem hg176_191 : pi_fetch mc_176 191 = some (.aload_n 0, 1) := rfl
theorem hg176_192 : pi_fetch mc_176 192 = some (.invokevirtual 142, 3) := rfl
theorem hg176_195 : pi_fetch mc_176 195 = some (.invokestatic 159, 3) := rfl
theorem hg176_198 : pi_fetch mc_176 198 = some (.ifCond .eq 100, 3) := rfl
theorem hg176_201 : pi_fetch mc_176 201 = some (.iload_n 3, 1) := rfl
theorem hg176_202 : pi_fetch mc_176 202 = some (.ifCond .eq 18, 3) := rfl
theorem hg176_205 : pi_fetch mc_176 205 = some (.aload_n 0, 1) := rfl
theorem hg176_206 : pi_fetch mc_176 206 = some (.invokevirtual 142, 3) := rfl
theorem hg176_209 : pi_fetch mc_176 209 = some (.invokestatic 155, 3) := rfl
theorem hg176_212 : pi_fetch mc_176 212 = some (.iload_n 2, 1) := rfl
theorem hg176_213 : pi_fetch mc_176 213 = some (.if_icmp .ne 7, 3) := rfl
theorem hg176_216 : pi_fetch mc_176 216 = some (.iconst 1, 1) := rfl
theorem hg176_217 : pi_fetch mc_176 217 = some (.goto 4, 3) := rfl
theorem hg176_220 : pi_fetch mc_176 220 = some (.iconst 0, 1) := rfl
theorem hg176_221 : pi_fetch mc_176 221 = some (.istore_n 3, 1) := rfl
theorem hg176_222 : pi_fetch mc_176 222 = some (.aload_n 0, 1) := rfl
theorem hg176_223 : pi_fetch mc_176 223 = some (.getfield 149, 3) := rfl
theorem hg176_226 : pi_fetch mc_176 226 = some (.bipush 7, 2) := rfl
theorem hg176_228 : pi_fetch mc_176 228 = some (.if_icmp .ge 20, 3) := rfl
theorem hg176_231 : pi_fetch mc_176 231 = some (.aload_n 0, 1) := rfl
theorem hg176_232 : pi_fetch mc_176 232 = some (.aload_n 0, 1) := rfl
theorem hg176_233 : pi_fetch mc_176 233 = some (.getfield 165, 3) := rfl
theorem hg176_236 : pi_fetch mc_176 236 = some (.bipush 8, 2) := rfl
theorem hg176_238 : pi_fetch mc_176 238 = some (.lshl, 1) := rfl
theorem hg176_239 : pi_fetch mc_176 239 = some (.aload_n 0, 1) := rfl
theorem hg176_240 : pi_fetch mc_176 240 = some (.invokevirtual 142, 3) := rfl
theorem hg176_243 : pi_fetch mc_176 243 = some (.i2l, 1) := rfl
theorem hg176_244 : pi_fetch mc_176 244 = some (.lor, 1) := rfl
theorem hg176_245 : pi_fetch mc_176 245 = some (.putfield 165, 3) := rfl
theorem hg176_248 : pi_fetch mc_176 248 = some (.aload_n 0, 1) := rfl
theorem hg176_249 : pi_fetch mc_176 249 = some (.getfield 149, 3) := rfl
theorem hg176_252 : pi_fetch mc_176 252 = some (.iconst 2, 1) := rfl
theorem hg176_253 : pi_fetch mc_176 253 = some (.if_icmp .ge 22, 3) := rfl
theorem hg176_256 : pi_fetch mc_176 256 = some (.aload_n 0, 1) := rfl
theorem hg176_257 : pi_fetch mc_176 257 = some (.bipush 10, 2) := rfl
theorem hg176_259 : pi_fetch mc_176 259 = some (.aload_n 0, 1) := rfl
theorem hg176_260 : pi_fetch mc_176 260 = some (.getfield 162, 3) := rfl
theorem hg176_263 : pi_fetch mc_176 263 = some (.imul, 1) := rfl
theorem hg176_264 : pi_fetch mc_176 264 = some (.aload_n 0, 1) := rfl
theorem hg176_265 : pi_fetch mc_176 265 = some (.invokevirtual 142, 3) := rfl
theorem hg176_268 : pi_fetch mc_176 268 = some (.iadd, 1) := rfl
theorem hg176_269 : pi_fetch mc_176 269 = some (.bipush 48, 2) := rfl
theorem hg176_271 : pi_fetch mc_176 271 = some (.isub, 1) := rfl
theorem hg176_272 : pi_fetch mc_176 272 = some (.putfield 162, 3) := rfl
theorem hg176_275 : pi_fetch mc_176 275 = some (.aload_n 0, 1) := rfl
theorem hg176_276 : pi_fetch mc_176 276 = some (.dup, 1) := rfl
theorem hg176_277 : pi_fetch mc_176 277 = some (.getfield 149, 3) := rfl
theorem hg176_280 : pi_fetch mc_176 280 = some (.iconst 1, 1) := rfl
theorem hg176_281 : pi_fetch mc_176 281 = some (.iadd, 1) := rfl
theorem hg176_282 : pi_fetch mc_176 282 = some (.putfield 149, 3) := rfl
theorem hg176_285 : pi_fetch mc_176 285 = some (.aload_n 0, 1) := rfl
theorem hg176_286 : pi_fetch mc_176 286 = some (.dup, 1) := rfl
theorem hg176_287 : pi_fetch mc_176 287 = some (.getfield 21, 3) := rfl
theorem hg176_290 : pi_fetch mc_176 290 = some (.iconst 1, 1) := rfl
theorem hg176_291 : pi_fetch mc_176 291 = some (.iadd, 1) := rfl
theorem hg176_292 : pi_fetch mc_176 292 = some (.putfield 21, 3) := rfl
theorem hg176_295 : pi_fetch mc_176 295 = some (.goto (-114), 3) := rfl
theorem hg176_298 : pi_fetch mc_176 298 = some (.aload_n 0, 1) := rfl
theorem hg176_299 : pi_fetch mc_176 299 = some (.iload_n 3, 1) := rfl
theorem hg176_300 : pi_fetch mc_176 300 = some (.ifCond .eq 20, 3) := rfl
theorem hg176_303 : pi_fetch mc_176 303 = some (.aload_n 0, 1) := rfl
theorem hg176_304 : pi_fetch mc_176 304 = some (.getfield 149, 3) := rfl
theorem hg176_307 : pi_fetch mc_176 307 = some (.iload_n 2, 1) := rfl
theorem hg176_308 : pi_fetch mc_176 308 = some (.ifCond .eq 8, 3) := rfl
theorem hg176_311 : pi_fetch mc_176 311 = some (.bipush 7, 2) := rfl
theorem hg176_313 : pi_fetch mc_176 313 = some (.goto 4, 3) := rfl
theorem hg176_316 : pi_fetch mc_176 316 = some (.iconst 2, 1) := rfl
theorem hg176_317 : pi_fetch mc_176 317 = some (.if_icmp .le 7, 3) := rfl
theorem hg176_320 : pi_fetch mc_176 320 = some (.iconst 4, 1) := rfl
theorem hg176_321 : pi_fetch mc_176 321 = some (.goto 12, 3) := rfl
theorem hg176_324 : pi_fetch mc_176 324 = some (.iload_n 2, 1) := rfl
theorem hg176_325 : pi_fetch mc_176 325 = some (.ifCond .eq 7, 3) := rfl
theorem hg176_328 : pi_fetch mc_176 328 = some (.iconst 1, 1) := rfl
theorem hg176_329 : pi_fetch mc_176 329 = some (.goto 4, 3) := rfl
theorem hg176_332 : pi_fetch mc_176 332 = some (.iconst 2, 1) := rfl
theorem hg176_333 : pi_fetch mc_176 333 = some (.putfield 152, 3) := rfl
theorem hg176_336 : pi_fetch mc_176 336 = some (.return_, 1) := rfl
theorem hg174_0 : pi_fetch mc_174 0 = some (.iload_n 0, 1) := rfl
theorem hg174_1 : pi_fetch mc_174 1 = some (.bipush 97, 2) := rfl
theorem hg174_3 : pi_fetch mc_174 3 = some (.if_icmp .lt 13, 3) := rfl
theorem hg174_6 : pi_fetch mc_174 6 = some (.iload_n 0, 1) := rfl
theorem hg174_7 : pi_fetch mc_174 7 = some (.bipush 122, 2) := rfl
theorem hg174_9 : pi_fetch mc_174 9 = some (.if_icmp .gt 7, 3) := rfl
theorem hg174_12 : pi_fetch mc_174 12 = some (.iconst 1, 1) := rfl
theorem hg174_13 : pi_fetch mc_174 13 = some (.goto 4, 3) := rfl
theorem hg174_16 : pi_fetch mc_174 16 = some (.iconst 0, 1) := rfl
theorem hg174_17 : pi_fetch mc_174 17 = some (.ireturn, 1) := rfl
theorem hg175_0 : pi_fetch mc_175 0 = some (.iload_n 0, 1) := rfl
theorem hg175_1 : pi_fetch mc_175 1 = some (.bipush 48, 2) := rfl
theorem hg175_3 : pi_fetch mc_175 3 = some (.if_icmp .lt 13, 3) := rfl
theorem hg175_6 : pi_fetch mc_175 6 = some (.iload_n 0, 1) := rfl
theorem hg175_7 : pi_fetch mc_175 7 = some (.bipush 57, 2) := rfl
theorem hg175_9 : pi_fetch mc_175 9 = some (.if_icmp .gt 7, 3) := rfl
theorem hg175_12 : pi_fetch mc_175 12 = some (.iconst 1, 1) := rfl
theorem hg175_13 : pi_fetch mc_175 13 = some (.goto 4, 3) := rfl
theorem hg175_16 : pi_fetch mc_175 16 = some (.iconst 0, 1) := rfl
theorem hg175_17 : pi_fetch mc_175 17 = some (.ireturn, 1) := rfl
/-- the model's text -/
def tm_b (w : pi_W) (n : Nat) : Int32 := gv w 62 n &&& (Int16.ofInt 255).toInt32
def tm_P (tp : Nat → Nat) (B : Nat) (w : pi_W) : Prop := (gv w 61 3).toInt = (B : Int) ∧ B ≤ 940 ∧ ∀ n, n < 940 → (tm_b w n).toInt = (tp n : Int)
theorem tm_P.fr {tp : Nat → Nat} {B : Nat} {w w' : pi_W} {M : af_M} (h : tm_P tp B w) (hF : af_Fr M w w') (h1 : af_cov M 61 3 3 = false) (h2 : ∀ e ∈ M, e.1 ≠ 62) : tm_P tp B w' := by
  obtain ⟨a, b, c⟩ := h
  refine ⟨by rw [gv_eq (hF 61 3 h1)]; exact a, b, fun n hn => ?_⟩
  unfold tm_b
  rw [gv_eq (hq_cell hF h2)]
  exact c n hn
theorem tm_P.r {tp : Nat → Nat} {B : Nat} {w : pi_W} (h : tm_P tp B w) (n : Nat) (hn : n < 940) : tp n ≤ 255 := by
  have h1 := af_and_r (gv w 62 n) ((Int16.ofInt 255).toInt32) (by decide)
  have e : ((Int16.ofInt 255).toInt32).toInt = 255 := by decide
  rw [e] at h1
  have h2 := h.2.2 n hn
  unfold tm_b at h2
  omega
theorem sy_inc {x : Int32} {n : Nat} (h : x.toInt = (n : Int)) (hn : n < 999) : (x + Int32.ofInt 1).toInt = ((n + 1 : Nat) : Int) := by
  rw [hn_e h (by omega), hn_s]
  exact hn_t (by omega)
theorem tm_pk {d p B : Nat} {tp : Nat → Nat} {w : pi_W} (hC : af_Conf aw_Sh w) (hP : tm_P tp B w) (hp : (gv w 61 4).toInt = (p : Int)) : hq_F d sm173 (fun r w' => w' = w ∧ ∃ v : Int32, r = some (.int v) ∧ v.toInt = if p < B then (tp p : Int) else -1) (0, lv_args 0 [.ref 61], [], w) := by
  obtain ⟨hB, hB9, htp⟩ := id hP
  have g0 : pi_get (lv_args 0 [.ref 61]) 0 = some (.ref 61) := rfl
  have kc0 : (((Int16.ofInt 255).toInt32)).toInt = 255 := by decide
  have kc1 : ((Int32.ofInt (-1))).toInt = (-1) := by decide
  have kz := sy_z0
  refine hq_F.st (s' := (1, _, _, _)) hg173_0 rfl rfl rfl (hs_al g0) ?_
  refine hq_F.st (s' := (4, _, _, _)) hg173_1 rfl rfl rfl (hq_gf hC sh_61 sk_11_21 (sy_v hC (by decide) rfl)) ?_
  refine hq_F.st (s' := (5, _, _, _)) hg173_4 rfl rfl rfl (hs_al g0) ?_
  refine hq_F.st (s' := (8, _, _, _)) hg173_5 rfl rfl rfl (hq_gf hC sh_61 sk_11_18 (sy_v hC (by decide) rfl)) ?_
  by_cases b8 : ((gv w 61 3)).toInt ≤ ((gv w 61 4)).toInt
  · skip
    refine hq_F.st (s' := (27, _, _, _)) hg173_8 rfl rfl rfl (hs_ic (ci_ge (by omega)) rfl) ?_
    refine hq_F.st (s' := (28, _, _, _)) hg173_27 rfl rfl rfl rfl ?_
    refine hq_F.en hg173_28 rfl rfl ?_
    exact ⟨rfl, _, rfl, by rw [if_neg (by omega)]; decide⟩
  · skip
    refine hq_F.st (s' := (11, _, _, _)) hg173_8 rfl rfl rfl (hs_icn (t := 27) (ci_gen (by omega)) rfl) ?_
    refine hq_F.st (s' := (12, _, _, _)) hg173_11 rfl rfl rfl (hs_al g0) ?_
    refine hq_F.st (s' := (15, _, _, _)) hg173_12 rfl rfl rfl (hq_gf hC sh_61 sk_11_14 (hq_ref hC sh_61 (b := 62) rfl)) ?_
    refine hq_F.st (s' := (16, _, _, _)) hg173_15 rfl rfl rfl (hs_al g0) ?_
    refine hq_F.st (s' := (19, _, _, _)) hg173_16 rfl rfl rfl (hq_gf hC sh_61 sk_11_21 (sy_v hC (by decide) rfl)) ?_
    refine hq_F.st (s' := (20, _, _, _)) hg173_19 rfl rfl rfl (sy_ba hC sh_62 (n := p) hp (by omega)) ?_
    refine hq_F.st (s' := (23, _, _, _)) hg173_20 rfl rfl rfl rfl ?_
    refine hq_F.st (s' := (24, _, _, _)) hg173_23 rfl rfl rfl rfl ?_
    refine hq_F.st (s' := (28, _, _, _)) hg173_24 rfl rfl rfl rfl ?_
    refine hq_F.en hg173_28 rfl (pi_ri _) ?_
    exact ⟨rfl, _, rfl, by rw [if_pos (by omega)]; exact htp p (by omega)⟩
theorem tm_174 {d : Nat} {w : pi_W} {x : Int32} : hq_F d sm174 (fun r w' => w' = w ∧ r = some (.int (if 97 ≤ x.toInt ∧ x.toInt ≤ 122 then 1 else 0))) (0, lv_args 0 [.int x], [], w) := by
  have g0 : pi_get (lv_args 0 [.int x]) 0 = some (.int x) := rfl
  have kc0 : (((Int8.ofInt 122).toInt32)).toInt = 122 := by decide
  have kc1 : (((Int8.ofInt 97).toInt32)).toInt = 97 := by decide
  have kc2 : ((Int32.ofInt 0)).toInt = 0 := by decide
  have kc3 : ((Int32.ofInt 1)).toInt = 1 := by decide
  have kz := sy_z0
  refine hq_F.st (s' := (1, _, _, _)) hg174_0 rfl rfl rfl (hs_iln g0) ?_
  refine hq_F.st (s' := (3, _, _, _)) hg174_1 rfl rfl rfl rfl ?_
  by_cases b3 : (x).toInt < 97
  · skip
    refine hq_F.st (s' := (16, _, _, _)) hg174_3 rfl rfl rfl (hs_ic (ci_lt (by omega)) rfl) ?_
    refine hq_F.st (s' := (17, _, _, _)) hg174_16 rfl rfl rfl rfl ?_
    refine hq_F.en hg174_17 rfl rfl ?_
    exact ⟨rfl, by rw [if_neg (by omega)]; rfl⟩
  · skip
    refine hq_F.st (s' := (6, _, _, _)) hg174_3 rfl rfl rfl (hs_icn (t := 16) (ci_ltn (by omega)) rfl) ?_
    refine hq_F.st (s' := (7, _, _, _)) hg174_6 rfl rfl rfl (hs_iln g0) ?_
    refine hq_F.st (s' := (9, _, _, _)) hg174_7 rfl rfl rfl rfl ?_
    by_cases b9 : 122 < (x).toInt
    · skip
      refine hq_F.st (s' := (16, _, _, _)) hg174_9 rfl rfl rfl (hs_ic (ci_gt (by omega)) rfl) ?_
      refine hq_F.st (s' := (17, _, _, _)) hg174_16 rfl rfl rfl rfl ?_
      refine hq_F.en hg174_17 rfl rfl ?_
      exact ⟨rfl, by rw [if_neg (by omega)]; rfl⟩
    · skip
      refine hq_F.st (s' := (12, _, _, _)) hg174_9 rfl rfl rfl (hs_icn (t := 16) (ci_gtn (by omega)) rfl) ?_
      refine hq_F.st (s' := (13, _, _, _)) hg174_12 rfl rfl rfl rfl ?_
      refine hq_F.st (s' := (17, _, _, _)) hg174_13 rfl rfl rfl rfl ?_
      refine hq_F.en hg174_17 rfl rfl ?_
      exact ⟨rfl, by rw [if_pos (by omega)]; rfl⟩
theorem tm_175 {d : Nat} {w : pi_W} {x : Int32} : hq_F d sm175 (fun r w' => w' = w ∧ r = some (.int (if 48 ≤ x.toInt ∧ x.toInt ≤ 57 then 1 else 0))) (0, lv_args 0 [.int x], [], w) := by
  have g0 : pi_get (lv_args 0 [.int x]) 0 = some (.int x) := rfl
  have kc0 : (((Int8.ofInt 48).toInt32)).toInt = 48 := by decide
  have kc1 : (((Int8.ofInt 57).toInt32)).toInt = 57 := by decide
  have kc2 : ((Int32.ofInt 0)).toInt = 0 := by decide
  have kc3 : ((Int32.ofInt 1)).toInt = 1 := by decide
  have kz := sy_z0
  refine hq_F.st (s' := (1, _, _, _)) hg175_0 rfl rfl rfl (hs_iln g0) ?_
  refine hq_F.st (s' := (3, _, _, _)) hg175_1 rfl rfl rfl rfl ?_
  by_cases b3 : (x).toInt < 48
  · skip
    refine hq_F.st (s' := (16, _, _, _)) hg175_3 rfl rfl rfl (hs_ic (ci_lt (by omega)) rfl) ?_
    refine hq_F.st (s' := (17, _, _, _)) hg175_16 rfl rfl rfl rfl ?_
    refine hq_F.en hg175_17 rfl rfl ?_
    exact ⟨rfl, by rw [if_neg (by omega)]; rfl⟩
  · skip
    refine hq_F.st (s' := (6, _, _, _)) hg175_3 rfl rfl rfl (hs_icn (t := 16) (ci_ltn (by omega)) rfl) ?_
    refine hq_F.st (s' := (7, _, _, _)) hg175_6 rfl rfl rfl (hs_iln g0) ?_
    refine hq_F.st (s' := (9, _, _, _)) hg175_7 rfl rfl rfl rfl ?_
    by_cases b9 : 57 < (x).toInt
    · skip
      refine hq_F.st (s' := (16, _, _, _)) hg175_9 rfl rfl rfl (hs_ic (ci_gt (by omega)) rfl) ?_
      refine hq_F.st (s' := (17, _, _, _)) hg175_16 rfl rfl rfl rfl ?_
      refine hq_F.en hg175_17 rfl rfl ?_
      exact ⟨rfl, by rw [if_neg (by omega)]; rfl⟩
    · skip
      refine hq_F.st (s' := (12, _, _, _)) hg175_9 rfl rfl rfl (hs_icn (t := 16) (ci_gtn (by omega)) rfl) ?_
      refine hq_F.st (s' := (13, _, _, _)) hg175_12 rfl rfl rfl rfl ?_
      refine hq_F.st (s' := (17, _, _, _)) hg175_13 rfl rfl rfl rfl ?_
      refine hq_F.en hg175_17 rfl rfl ?_
      exact ⟨rfl, by rw [if_pos (by omega)]; rfl⟩
theorem tm_skip {d B : Nat} {tp : Nat → Nat} {Q : Option Value → pi_W → Prop} : ∀ (m i : Nat) {w : pi_W} {lv : pi_L}, B < i + m → i ≤ B → af_Conf aw_Sh w → tm_P tp B w → (gv w 61 4).toInt = (i : Int) → pi_get lv 0 = some (.ref 61) → (∀ (w' : pi_W) (lv' : pi_L), af_Conf aw_Sh w' → af_Fr [(61, 4, 5)] w w' → (gv w' 61 4).toInt = (tq_sk tp B i : Int) → pi_get lv' 0 = some (.ref 61) → hq_F (d + 1) sm176 Q (31, lv', [], w')) → hq_F (d + 1) sm176 Q (0, lv, [], w) := by
  intro m
  induction m with
  | zero => intro i w lv hm hi; omega
  | succ m ih =>
    intro i w lv hm hi hC hP hp g0 hQ
    obtain ⟨hB, hB9, htp⟩ := id hP
    have kc0 : (((Int8.ofInt 10).toInt32)).toInt = 10 := by decide
    have kc1 : (((Int8.ofInt 32).toInt32)).toInt = 32 := by decide
    have kc2 : ((Int32.ofInt 1)).toInt = 1 := by decide
    have kz := sy_z0
    refine hq_F.st (s' := (1, _, _, _)) hg176_0 rfl rfl rfl (hs_al g0) ?_
    refine hq_F.call hg176_1 rfl rfl si_11_142 (by decide) (by decide) sz_173 (sy_argsV hC sh_61 rfl rfl rfl (Nat.le_of_ble_eq_true rfl) rfl (Nat.le_of_ble_eq_true rfl) rfl (by decide)) (tm_pk hC hP (p := i) hp) (fun _ _ q => by rw [q.1]) ?_
    rintro r1 w ⟨rfl, v1, rfl, hv1⟩
    try dsimp only
    refine hq_F.st (s' := (6, _, _, _)) hg176_4 rfl rfl rfl rfl ?_
    by_cases b6 : (v1).toInt = 32
    · skip
      refine hq_F.st (s' := (18, _, _, _)) hg176_6 rfl rfl rfl (hs_ic (ci_eq (by omega)) rfl) ?_
      have hlt : i < B := by
        by_cases h : i < B
        · exact h
        · rw [if_neg h] at hv1
          omega
      rw [if_pos hlt] at hv1
      have hs := tq_sk_go (tp := tp) hlt (by omega)
      have hin := sy_inc hp (by omega)
      refine hq_F.st (s' := (19, _, _, _)) hg176_18 rfl rfl rfl (hs_al g0) ?_
      refine hq_F.st (s' := (20, _, _, _)) hg176_19 rfl rfl rfl rfl ?_
      refine hq_F.st (s' := (23, _, _, _)) hg176_20 rfl rfl rfl (hq_gf hC sh_61 sk_11_21 (sy_v hC (by decide) rfl)) ?_
      refine hq_F.st (s' := (24, _, _, _)) hg176_23 rfl rfl rfl rfl ?_
      refine hq_F.st (s' := (25, _, _, _)) hg176_24 rfl rfl rfl rfl ?_
      refine sy_pf hg176_25 hC sh_61 sk_11_21 (lo := 0) (hi := 940) rfl (by omega) rfl rfl rfl (fun w1 hC1 hw1 => ?_)
      refine hq_F.st (s' := (0, _, _, _)) hg176_28 rfl rfl rfl rfl ?_
      refine ih (i + 1) (by omega) (by omega) hC1 (hP.fr (wpF hw1) (by decide) (by decide)) (by rw [wpv hw1, if_pos ⟨rfl, rfl⟩]; exact hin) g0 (fun w2 lv2 k1 k2 k3 k4 => hQ w2 lv2 k1 (((wpF hw1).cov (by decide)).tr k2) (by rw [hs]; exact k3) k4)
    · skip
      refine hq_F.st (s' := (9, _, _, _)) hg176_6 rfl rfl rfl (hs_icn (t := 18) (ci_eqn (by omega)) rfl) ?_
      refine hq_F.st (s' := (10, _, _, _)) hg176_9 rfl rfl rfl (hs_al g0) ?_
      refine hq_F.call hg176_10 rfl rfl si_11_142 (by decide) (by decide) sz_173 (sy_argsV hC sh_61 rfl rfl rfl (Nat.le_of_ble_eq_true rfl) rfl (Nat.le_of_ble_eq_true rfl) rfl (by decide)) (tm_pk hC hP (p := i) hp) (fun _ _ q => by rw [q.1]) ?_
      rintro r10 w ⟨rfl, v10, rfl, hv10⟩
      try dsimp only
      refine hq_F.st (s' := (15, _, _, _)) hg176_13 rfl rfl rfl rfl ?_
      by_cases b15 : ¬ (v10).toInt = 10
      · skip
        refine hq_F.st (s' := (31, _, _, _)) hg176_15 rfl rfl rfl (hs_ic (ci_ne (by omega)) rfl) ?_
        have hs : tq_sk tp B i = i := by
          by_cases h : i < B
          · rw [if_pos h] at hv1 hv10
            exact tq_sk_stop (by omega)
          · exact tq_sk_end (by omega)
        exact hQ w lv hC (af_Fr.rf _ _) (by rw [hs]; exact hp) g0
      · skip
        refine hq_F.st (s' := (18, _, _, _)) hg176_15 rfl rfl rfl (hs_icn (t := 31) (ci_nen (by omega)) rfl) ?_
        have hlt : i < B := by
          by_cases h : i < B
          · exact h
          · rw [if_neg h] at hv10
            omega
        rw [if_pos hlt] at hv10
        have hs := tq_sk_go (tp := tp) hlt (by omega)
        have hin := sy_inc hp (by omega)
        refine hq_F.st (s' := (19, _, _, _)) hg176_18 rfl rfl rfl (hs_al g0) ?_
        refine hq_F.st (s' := (20, _, _, _)) hg176_19 rfl rfl rfl rfl ?_
        refine hq_F.st (s' := (23, _, _, _)) hg176_20 rfl rfl rfl (hq_gf hC sh_61 sk_11_21 (sy_v hC (by decide) rfl)) ?_
        refine hq_F.st (s' := (24, _, _, _)) hg176_23 rfl rfl rfl rfl ?_
        refine hq_F.st (s' := (25, _, _, _)) hg176_24 rfl rfl rfl rfl ?_
        refine sy_pf hg176_25 hC sh_61 sk_11_21 (lo := 0) (hi := 940) rfl (by omega) rfl rfl rfl (fun w2 hC2 hw2 => ?_)
        refine hq_F.st (s' := (0, _, _, _)) hg176_28 rfl rfl rfl rfl ?_
        refine ih (i + 1) (by omega) (by omega) hC2 (hP.fr (wpF hw2) (by decide) (by decide)) (by rw [wpv hw2, if_pos ⟨rfl, rfl⟩]; exact hin) g0 (fun w2 lv2 k1 k2 k3 k4 => hQ w2 lv2 k1 (((wpF hw2).cov (by decide)).tr k2) (by rw [hs]; exact k3) k4)
def tq_gw : Nat → Int64 → List Nat → Int64
  | _, a, [] => a
  | s, a, c :: u => tq_gw (s + 1) (if s < 7 then a <<< ((Int8.ofInt 8).toInt32.toInt64 &&& 63) ||| (Int32.ofNat c).toInt64 else a) u
def tq_gn : Nat → Int32 → List Nat → Int32
  | _, a, [] => a
  | s, a, c :: u => tq_gn (s + 1) (if s < 2 then (Int8.ofInt 10).toInt32 * a + Int32.ofNat c - (Int8.ofInt 48).toInt32 else a) u
def tq_b (b : Bool) : Int32 := if b = true then 1 else 0
theorem tq_b_t {b : Bool} : (tq_b b).toInt = if b = true then 1 else 0 := by cases b <;> decide
theorem tm_B {d B j : Nat} {tp : Nat → Nat} {w : pi_W} {lv : pi_L} {al sl : Bool} {Q : Option Value → pi_W → Prop} (hC : af_Conf aw_Sh w) (hP : tm_P tp B w) (hp : (gv w 61 4).toInt = (j : Int)) (hlt : j < B) (g0 : pi_get lv 0 = some (.ref 61)) (g2 : pi_get lv 2 = some (.int (tq_b sl))) (g3 : pi_get lv 3 = some (.int (tq_b al))) (hQ : ∀ lv', pi_get lv' 0 = some (.ref 61) → pi_get lv' 2 = some (.int (tq_b sl)) → pi_get lv' 3 = some (.int (tq_b (al && (tq_sm (tp j) == sl)))) → hq_F (d + 1) sm176 Q (222, lv', [], w)) : hq_F (d + 1) sm176 Q (201, lv, [], w) := by
  obtain ⟨hB, hB9, htp⟩ := id hP
  have tb := htp j (by omega)
  have kc0 : ((0 : Int32)).toInt = 0 := by decide
  have kc1 : ((1 : Int32)).toInt = 1 := by decide
  have kc2 : ((Int32.ofInt 0)).toInt = 0 := by decide
  have kc3 : ((Int32.ofInt 1)).toInt = 1 := by decide
  have kz := sy_z0
  refine hq_F.st (s' := (202, _, _, _)) hg176_201 rfl rfl rfl (hs_iln g3) ?_
  by_cases b202 : (tq_b al).toInt = 0
  · skip
    refine hq_F.st (s' := (220, _, _, _)) hg176_202 rfl rfl rfl (hs_if (ci_eq (by omega)) rfl) ?_
    refine hq_F.st (s' := (221, _, _, _)) hg176_220 rfl rfl rfl rfl ?_
    refine hq_F.st (s' := (222, _, _, _)) hg176_221 rfl rfl rfl rfl ?_
    refine hQ _ (hg_nr g0 (by decide)) (hg_ne g2 (by decide)) ?_
    have e : tq_b (al && (tq_sm (tp j) == sl)) = (Int32.ofInt 0) := by
      revert b202
      cases al <;> cases sl <;> (try cases tq_sm (tp j)) <;> decide
    rw [e]
    exact (pi_get_set _ _ _)
  · skip
    refine hq_F.st (s' := (205, _, _, _)) hg176_202 rfl rfl rfl (hs_ifn (t := 220) (ci_eqn (by omega)) rfl) ?_
    refine hq_F.st (s' := (206, _, _, _)) hg176_205 rfl rfl rfl (hs_al g0) ?_
    refine hq_F.call hg176_206 rfl rfl si_11_142 (by decide) (by decide) sz_173 (sy_argsV hC sh_61 rfl rfl rfl (Nat.le_of_ble_eq_true rfl) rfl (Nat.le_of_ble_eq_true rfl) rfl (by decide)) (tm_pk hC hP (p := j) hp) (fun _ _ q => by rw [q.1]) ?_
    rintro r206 w ⟨rfl, v206, rfl, hv206⟩
    try dsimp only
    refine hq_F.call hg176_209 rfl rfl si_11_155 (by decide) (by decide) sz_174 (sy_argsS rfl rfl rfl (Nat.le_of_ble_eq_true rfl) (by decide) rfl (Nat.le_of_ble_eq_true rfl) (by decide)) (tm_174 (x := v206)) (fun _ _ q => by rw [q.1]) ?_
    rintro r209 w ⟨rfl, rfl⟩
    try dsimp only
    by_cases l209 : 97 ≤ (v206).toInt ∧ (v206).toInt ≤ 122
    · rw [if_pos l209]
      refine hq_F.st (s' := (213, _, _, _)) hg176_212 rfl rfl rfl (hs_iln g2) ?_
      by_cases b213 : ¬ 1 = (tq_b sl).toInt
      · skip
        refine hq_F.st (s' := (220, _, _, _)) hg176_213 rfl rfl rfl (hs_ic (ci_ne (by omega)) rfl) ?_
        refine hq_F.st (s' := (221, _, _, _)) hg176_220 rfl rfl rfl rfl ?_
        refine hq_F.st (s' := (222, _, _, _)) hg176_221 rfl rfl rfl rfl ?_
        refine hQ _ (hg_nr g0 (by decide)) (hg_ne g2 (by decide)) ?_
        have e : tq_b (al && (tq_sm (tp j) == sl)) = (Int32.ofInt 0) := by
          rw [tq_smt (by omega)]
          revert b202 b213
          cases al <;> cases sl <;> (try cases tq_sm (tp j)) <;> decide
        rw [e]
        exact (pi_get_set _ _ _)
      · skip
        refine hq_F.st (s' := (216, _, _, _)) hg176_213 rfl rfl rfl (hs_icn (t := 220) (ci_nen (by omega)) rfl) ?_
        refine hq_F.st (s' := (217, _, _, _)) hg176_216 rfl rfl rfl rfl ?_
        refine hq_F.st (s' := (221, _, _, _)) hg176_217 rfl rfl rfl rfl ?_
        refine hq_F.st (s' := (222, _, _, _)) hg176_221 rfl rfl rfl rfl ?_
        refine hQ _ (hg_nr g0 (by decide)) (hg_ne g2 (by decide)) ?_
        have e : tq_b (al && (tq_sm (tp j) == sl)) = (Int32.ofInt 1) := by
          rw [tq_smt (by omega)]
          revert b202 b213
          cases al <;> cases sl <;> (try cases tq_sm (tp j)) <;> decide
        rw [e]
        exact (pi_get_set _ _ _)
    · rw [if_neg l209]
      refine hq_F.st (s' := (213, _, _, _)) hg176_212 rfl rfl rfl (hs_iln g2) ?_
      by_cases b213 : ¬ 0 = (tq_b sl).toInt
      · skip
        refine hq_F.st (s' := (220, _, _, _)) hg176_213 rfl rfl rfl (hs_ic (ci_ne (by omega)) rfl) ?_
        refine hq_F.st (s' := (221, _, _, _)) hg176_220 rfl rfl rfl rfl ?_
        refine hq_F.st (s' := (222, _, _, _)) hg176_221 rfl rfl rfl rfl ?_
        refine hQ _ (hg_nr g0 (by decide)) (hg_ne g2 (by decide)) ?_
        have e : tq_b (al && (tq_sm (tp j) == sl)) = (Int32.ofInt 0) := by
          rw [tq_smf (by omega)]
          revert b202 b213
          cases al <;> cases sl <;> (try cases tq_sm (tp j)) <;> decide
        rw [e]
        exact (pi_get_set _ _ _)
      · skip
        refine hq_F.st (s' := (216, _, _, _)) hg176_213 rfl rfl rfl (hs_icn (t := 220) (ci_nen (by omega)) rfl) ?_
        refine hq_F.st (s' := (217, _, _, _)) hg176_216 rfl rfl rfl rfl ?_
        refine hq_F.st (s' := (221, _, _, _)) hg176_217 rfl rfl rfl rfl ?_
        refine hq_F.st (s' := (222, _, _, _)) hg176_221 rfl rfl rfl rfl ?_
        refine hQ _ (hg_nr g0 (by decide)) (hg_ne g2 (by decide)) ?_
        have e : tq_b (al && (tq_sm (tp j) == sl)) = (Int32.ofInt 1) := by
          rw [tq_smf (by omega)]
          revert b202 b213
          cases al <;> cases sl <;> (try cases tq_sm (tp j)) <;> decide
        rw [e]
        exact (pi_get_set _ _ _)
theorem tm_C {d B j s : Nat} {tp : Nat → Nat} {w : pi_W} {lv : pi_L} {Q : Option Value → pi_W → Prop} (hC : af_Conf aw_Sh w) (hP : tm_P tp B w) (hp : (gv w 61 4).toInt = (j : Int)) (hlt : j < B) (hsp : (gv w 61 13).toInt = (s : Int)) (g0 : pi_get lv 0 = some (.ref 61)) (hQ : ∀ w', af_Conf aw_Sh w' → af_Fr [(61, 17, 18)] w w' → gl w' 61 17 = (if s < 7 then gl w 61 17 <<< ((Int8.ofInt 8).toInt32.toInt64 &&& 63) ||| (Int32.ofNat (tp j)).toInt64 else gl w 61 17) → pi_get lv 0 = some (.ref 61) → hq_F (d + 1) sm176 Q (248, lv, [], w')) : hq_F (d + 1) sm176 Q (222, lv, [], w) := by
  obtain ⟨hB, hB9, htp⟩ := id hP
  have tb := htp j (by omega)
  have htr := hP.r j (by omega)
  have kc0 : (((Int8.ofInt 7).toInt32)).toInt = 7 := by decide
  have kc1 : (((Int8.ofInt 8).toInt32)).toInt = 8 := by decide
  have kc2 : ((0 : Int32)).toInt = 0 := by decide
  have kc3 : ((1 : Int32)).toInt = 1 := by decide
  have kz := sy_z0
  refine hq_F.st (s' := (223, _, _, _)) hg176_222 rfl rfl rfl (hs_al g0) ?_
  refine hq_F.st (s' := (226, _, _, _)) hg176_223 rfl rfl rfl (hq_gf hC sh_61 sk_11_149 (sy_v hC (by decide) rfl)) ?_
  refine hq_F.st (s' := (228, _, _, _)) hg176_226 rfl rfl rfl rfl ?_
  by_cases b228 : 7 ≤ ((gv w 61 13)).toInt
  · skip
    refine hq_F.st (s' := (248, _, _, _)) hg176_228 rfl rfl rfl (hs_ic (ci_ge (by omega)) rfl) ?_
    exact hQ w hC (af_Fr.rf _ _) (by rw [if_neg (by omega)]) g0
  · skip
    refine hq_F.st (s' := (231, _, _, _)) hg176_228 rfl rfl rfl (hs_icn (t := 248) (ci_gen (by omega)) rfl) ?_
    refine hq_F.st (s' := (232, _, _, _)) hg176_231 rfl rfl rfl (hs_al g0) ?_
    refine hq_F.st (s' := (233, _, _, _)) hg176_232 rfl rfl rfl (hs_al g0) ?_
    refine hq_F.st (s' := (236, _, _, _)) hg176_233 rfl rfl rfl (hq_gf hC sh_61 sk_11_165 (sy_vl hC sh_61 rfl)) ?_
    refine hq_F.st (s' := (238, _, _, _)) hg176_236 rfl rfl rfl rfl ?_
    refine hq_F.st (s' := (239, _, _, _)) hg176_238 rfl rfl rfl rfl ?_
    refine hq_F.st (s' := (240, _, _, _)) hg176_239 rfl rfl rfl (hs_al g0) ?_
    refine hq_F.call hg176_240 rfl rfl si_11_142 (by decide) (by decide) sz_173 (sy_argsV hC sh_61 rfl rfl rfl (Nat.le_of_ble_eq_true rfl) rfl (Nat.le_of_ble_eq_true rfl) rfl (by decide)) (tm_pk hC hP (p := j) hp) (fun _ _ q => by rw [q.1]) ?_
    rintro r240 w ⟨rfl, v240, rfl, hv240⟩
    rw [if_pos hlt] at hv240
    have hx : v240 = Int32.ofNat (tp j) := hn_e (by omega) (by omega)
    try dsimp only
    refine hq_F.st (s' := (244, _, _, _)) hg176_243 rfl rfl rfl rfl ?_
    refine hq_F.st (s' := (245, _, _, _)) hg176_244 rfl rfl rfl rfl ?_
    refine sy_pl hg176_245 hC sh_61 sk_11_165 rfl rfl rfl rfl (fun w1 hC1 hw1 => ?_)
    refine hQ w1 hC1 (wpF hw1) ?_ g0
    rw [wpl hw1, if_pos ⟨rfl, rfl⟩, if_pos (by omega), hx]
theorem tm_D {d B j s : Nat} {tp : Nat → Nat} {w : pi_W} {lv : pi_L} {Q : Option Value → pi_W → Prop} (hC : af_Conf aw_Sh w) (hP : tm_P tp B w) (hp : (gv w 61 4).toInt = (j : Int)) (hlt : j < B) (hsp : (gv w 61 13).toInt = (s : Int)) (g0 : pi_get lv 0 = some (.ref 61)) (hQ : ∀ w', af_Conf aw_Sh w' → af_Fr [(61, 14, 15)] w w' → gv w' 61 14 = (if s < 2 then (Int8.ofInt 10).toInt32 * gv w 61 14 + Int32.ofNat (tp j) - (Int8.ofInt 48).toInt32 else gv w 61 14) → pi_get lv 0 = some (.ref 61) → hq_F (d + 1) sm176 Q (275, lv, [], w')) : hq_F (d + 1) sm176 Q (248, lv, [], w) := by
  obtain ⟨hB, hB9, htp⟩ := id hP
  have tb := htp j (by omega)
  have htr := hP.r j (by omega)
  have kc0 : (((Int8.ofInt 10).toInt32)).toInt = 10 := by decide
  have kc1 : (((Int8.ofInt 48).toInt32)).toInt = 48 := by decide
  have kc2 : ((0 : Int32)).toInt = 0 := by decide
  have kc3 : ((1 : Int32)).toInt = 1 := by decide
  have kc4 : ((Int32.ofInt 2)).toInt = 2 := by decide
  have kz := sy_z0
  refine hq_F.st (s' := (249, _, _, _)) hg176_248 rfl rfl rfl (hs_al g0) ?_
  refine hq_F.st (s' := (252, _, _, _)) hg176_249 rfl rfl rfl (hq_gf hC sh_61 sk_11_149 (sy_v hC (by decide) rfl)) ?_
  refine hq_F.st (s' := (253, _, _, _)) hg176_252 rfl rfl rfl rfl ?_
  by_cases b253 : 2 ≤ ((gv w 61 13)).toInt
  · skip
    refine hq_F.st (s' := (275, _, _, _)) hg176_253 rfl rfl rfl (hs_ic (ci_ge (by omega)) rfl) ?_
    exact hQ w hC (af_Fr.rf _ _) (by rw [if_neg (by omega)]) g0
  · skip
    refine hq_F.st (s' := (256, _, _, _)) hg176_253 rfl rfl rfl (hs_icn (t := 275) (ci_gen (by omega)) rfl) ?_
    refine hq_F.st (s' := (257, _, _, _)) hg176_256 rfl rfl rfl (hs_al g0) ?_
    refine hq_F.st (s' := (259, _, _, _)) hg176_257 rfl rfl rfl rfl ?_
    refine hq_F.st (s' := (260, _, _, _)) hg176_259 rfl rfl rfl (hs_al g0) ?_
    refine hq_F.st (s' := (263, _, _, _)) hg176_260 rfl rfl rfl (hq_gf hC sh_61 sk_11_162 (sy_v hC (by decide) rfl)) ?_
    refine hq_F.st (s' := (264, _, _, _)) hg176_263 rfl rfl rfl rfl ?_
    refine hq_F.st (s' := (265, _, _, _)) hg176_264 rfl rfl rfl (hs_al g0) ?_
    refine hq_F.call hg176_265 rfl rfl si_11_142 (by decide) (by decide) sz_173 (sy_argsV hC sh_61 rfl rfl rfl (Nat.le_of_ble_eq_true rfl) rfl (Nat.le_of_ble_eq_true rfl) rfl (by decide)) (tm_pk hC hP (p := j) hp) (fun _ _ q => by rw [q.1]) ?_
    rintro r265 w ⟨rfl, v265, rfl, hv265⟩
    rw [if_pos hlt] at hv265
    have hx : v265 = Int32.ofNat (tp j) := hn_e (by omega) (by omega)
    try dsimp only
    refine hq_F.st (s' := (269, _, _, _)) hg176_268 rfl rfl rfl rfl ?_
    refine hq_F.st (s' := (271, _, _, _)) hg176_269 rfl rfl rfl rfl ?_
    refine hq_F.st (s' := (272, _, _, _)) hg176_271 rfl rfl rfl rfl ?_
    refine sy_pf hg176_272 hC sh_61 sk_11_162 (lo := -2147483648) (hi := 2147483647) rfl (af_i32 _) rfl rfl rfl (fun w1 hC1 hw1 => ?_)
    refine hQ w1 hC1 (wpF hw1) ?_ g0
    rw [wpv hw1, if_pos ⟨rfl, rfl⟩, if_pos (by omega), hx]
theorem tm_run {d B : Nat} {tp : Nat → Nat} {sl : Bool} {Q : Option Value → pi_W → Prop} : ∀ (m j s : Nat) (al : Bool) {w : pi_W} {lv : pi_L}, B < j + m → j ≤ B → s ≤ j → af_Conf aw_Sh w → tm_P tp B w → (gv w 61 4).toInt = (j : Int) → (gv w 61 13).toInt = (s : Int) → pi_get lv 0 = some (.ref 61) → pi_get lv 2 = some (.int (tq_b sl)) → pi_get lv 3 = some (.int (tq_b al)) → (∀ (w' : pi_W) (lv' : pi_L), af_Conf aw_Sh w' → af_Fr [(61, 4, 5), (61, 13, 15), (61, 17, 18)] w w' → (gv w' 61 4).toInt = ((j + (tq_rn tp B j).length : Nat) : Int) → (gv w' 61 13).toInt = ((s + (tq_rn tp B j).length : Nat) : Int) → gl w' 61 17 = tq_gw s (gl w 61 17) (tq_rn tp B j) → gv w' 61 14 = tq_gn s (gv w 61 14) (tq_rn tp B j) → pi_get lv' 0 = some (.ref 61) → pi_get lv' 2 = some (.int (tq_b sl)) → pi_get lv' 3 = some (.int (tq_b (al && (tq_rn tp B j).all (fun c => tq_sm c == sl)))) → hq_F (d + 1) sm176 Q (298, lv', [], w')) → hq_F (d + 1) sm176 Q (181, lv, [], w) := by
  intro m
  induction m with
  | zero => intro j s al w lv hm hj; omega
  | succ m ih =>
    intro j s al w lv hm hj hsj hC hP hp hsp g0 g2 g3 hQ
    obtain ⟨hB, hB9, htp⟩ := id hP
    have hstep : j < B → tq_rn tp B j = tp j :: tq_rn tp B (j + 1) → j + (tq_rn tp B j).length ≤ B → hq_F (d + 1) sm176 Q (201, lv, [], w) := by
      intro hlt hu hle
      refine tm_B hC hP hp hlt g0 g2 g3 (fun lv1 a0 a2 a3 => ?_)
      refine tm_C hC hP hp hlt hsp a0 (fun w1 c1 c2 c3 _ => ?_)
      have hP1 := hP.fr c2 (by decide) (by decide)
      have hp1 : (gv w1 61 4).toInt = (j : Int) := by rw [gv_eq (c2 61 4 (by decide))]; exact hp
      have hsp1 : (gv w1 61 13).toInt = (s : Int) := by rw [gv_eq (c2 61 13 (by decide))]; exact hsp
      refine tm_D c1 hP1 hp1 hlt hsp1 a0 (fun w2 d1 d2 d3 _ => ?_)
      have hP2 := hP1.fr d2 (by decide) (by decide)
      have hp2 : (gv w2 61 4).toInt = (j : Int) := by rw [gv_eq (d2 61 4 (by decide))]; exact hp1
      have hsp2 : (gv w2 61 13).toInt = (s : Int) := by rw [gv_eq (d2 61 13 (by decide))]; exact hsp1
      have kc0 : ((Int32.ofInt 1)).toInt = 1 := by decide
      have kz := sy_z0
      refine hq_F.st (s' := (276, _, _, _)) hg176_275 rfl rfl rfl (hs_al a0) ?_
      refine hq_F.st (s' := (277, _, _, _)) hg176_276 rfl rfl rfl rfl ?_
      refine hq_F.st (s' := (280, _, _, _)) hg176_277 rfl rfl rfl (hq_gf d1 sh_61 sk_11_149 (sy_v d1 (by decide) rfl)) ?_
      refine hq_F.st (s' := (281, _, _, _)) hg176_280 rfl rfl rfl rfl ?_
      refine hq_F.st (s' := (282, _, _, _)) hg176_281 rfl rfl rfl rfl ?_
      refine sy_pf hg176_282 d1 sh_61 sk_11_149 (lo := -2147483648) (hi := 2147483647) rfl (af_i32 _) rfl rfl rfl (fun w3 hC3 hw3 => ?_)
      have hp3 : (gv w3 61 4).toInt = (j : Int) := by rw [wpv hw3, if_neg (by decide)]; exact hp2
      have hin := sy_inc hp3 (by omega)
      refine hq_F.st (s' := (286, _, _, _)) hg176_285 rfl rfl rfl (hs_al a0) ?_
      refine hq_F.st (s' := (287, _, _, _)) hg176_286 rfl rfl rfl rfl ?_
      refine hq_F.st (s' := (290, _, _, _)) hg176_287 rfl rfl rfl (hq_gf hC3 sh_61 sk_11_21 (sy_v hC3 (by decide) rfl)) ?_
      have q287 : (gv w3 61 4).toInt = (gv w2 61 4).toInt := by rw [wpv hw3, if_neg (by decide)]
      refine hq_F.st (s' := (291, _, _, _)) hg176_290 rfl rfl rfl rfl ?_
      refine hq_F.st (s' := (292, _, _, _)) hg176_291 rfl rfl rfl rfl ?_
      refine sy_pf hg176_292 hC3 sh_61 sk_11_21 (lo := 0) (hi := 940) rfl (by omega) rfl rfl rfl (fun w4 hC4 hw4 => ?_)
      refine hq_F.st (s' := (181, _, _, _)) hg176_295 rfl rfl rfl rfl ?_
      refine ih (j + 1) (s + 1) (al && (tq_sm (tp j) == sl)) (by omega) (by omega) (by omega) hC4 (hP2.fr (((wpF hw3).cov (M := [(61, 4, 19)]) (by decide)).tr ((wpF hw4).cov (M := [(61, 4, 19)]) (by decide))) (by decide) (by decide)) ?_ ?_ a0 a2 a3 (fun w9 lv9 k1 k2 k3 k4 k5 k6 k7 k8 k9 => hQ w9 lv9 k1 ((c2.cov (by decide)).tr ((d2.cov (by decide)).tr ((((wpF hw3).cov (by decide)).tr ((wpF hw4).cov (by decide))).tr k2))) ?_ ?_ ?_ ?_ k7 k8 ?_)
      · rw [wpv hw4, if_pos ⟨rfl, rfl⟩]
        exact hin
      · rw [wpv hw4, if_neg (by decide), wpv hw3, if_pos ⟨rfl, rfl⟩]
        exact sy_inc hsp2 (by omega)
      · rw [hu, List.length_cons, k3]
        omega
      · rw [hu, List.length_cons, k4]
        omega
      · rw [k5, hu, tq_gw, wpvl hw4, if_neg (by decide), wpvl hw3, if_neg (by decide), gl_eq (d2 61 17 (by decide)), c3]
      · rw [k6, hu, tq_gn, wpv hw4, if_neg (by decide), wpv hw3, if_neg (by decide), d3, gv_eq (c2 61 14 (by decide))]
      · rw [hu, List.all_cons, ← Bool.and_assoc]
        exact k9
    have kc0 : ((0 : Int32)).toInt = 0 := by decide
    have kc1 : ((1 : Int32)).toInt = 1 := by decide
    have kz := sy_z0
    refine hq_F.st (s' := (182, _, _, _)) hg176_181 rfl rfl rfl (hs_al g0) ?_
    refine hq_F.call hg176_182 rfl rfl si_11_142 (by decide) (by decide) sz_173 (sy_argsV hC sh_61 rfl rfl rfl (Nat.le_of_ble_eq_true rfl) rfl (Nat.le_of_ble_eq_true rfl) rfl (by decide)) (tm_pk hC hP (p := j) hp) (fun _ _ q => by rw [q.1]) ?_
    rintro r182 w ⟨rfl, v182, rfl, hv182⟩
    try dsimp only
    refine hq_F.call hg176_185 rfl rfl si_11_155 (by decide) (by decide) sz_174 (sy_argsS rfl rfl rfl (Nat.le_of_ble_eq_true rfl) (by decide) rfl (Nat.le_of_ble_eq_true rfl) (by decide)) (tm_174 (x := v182)) (fun _ _ q => by rw [q.1]) ?_
    rintro r185 w ⟨rfl, rfl⟩
    try dsimp only
    by_cases l185 : 97 ≤ (v182).toInt ∧ (v182).toInt ≤ 122
    · rw [if_pos l185]
      refine hq_F.st (s' := (201, _, _, _)) hg176_188 rfl rfl rfl (hs_if (ci_ne (by omega)) rfl) ?_
      have hlt : j < B := by
        by_cases h : j < B
        · exact h
        · rw [if_neg h] at hv182
          omega
      rw [if_pos hlt] at hv182
      have hu := tq_rn_go (tp := tp) hlt (tq_ldt (by omega))
      have hle := tq_rn_len (tp := tp) (B := B) (i := j) (by omega)
      exact hstep hlt hu hle
    · rw [if_neg l185]
      refine hq_F.st (s' := (191, _, _, _)) hg176_188 rfl rfl rfl (hs_ifn (t := 201) (ci_nen (by omega)) rfl) ?_
      refine hq_F.st (s' := (192, _, _, _)) hg176_191 rfl rfl rfl (hs_al g0) ?_
      refine hq_F.call hg176_192 rfl rfl si_11_142 (by decide) (by decide) sz_173 (sy_argsV hC sh_61 rfl rfl rfl (Nat.le_of_ble_eq_true rfl) rfl (Nat.le_of_ble_eq_true rfl) rfl (by decide)) (tm_pk hC hP (p := j) hp) (fun _ _ q => by rw [q.1]) ?_
      rintro r192 w ⟨rfl, v192, rfl, hv192⟩
      try dsimp only
      refine hq_F.call hg176_195 rfl rfl si_11_159 (by decide) (by decide) sz_175 (sy_argsS rfl rfl rfl (Nat.le_of_ble_eq_true rfl) (by decide) rfl (Nat.le_of_ble_eq_true rfl) (by decide)) (tm_175 (x := v192)) (fun _ _ q => by rw [q.1]) ?_
      rintro r195 w ⟨rfl, rfl⟩
      try dsimp only
      by_cases d195 : 48 ≤ (v192).toInt ∧ (v192).toInt ≤ 57
      · rw [if_pos d195]
        refine hq_F.st (s' := (201, _, _, _)) hg176_198 rfl rfl rfl (hs_ifn (t := 298) (ci_eqn (by omega)) rfl) ?_
        have hlt : j < B := by
          by_cases h : j < B
          · exact h
          · rw [if_neg h] at hv192
            omega
        rw [if_pos hlt] at hv192
        have hu := tq_rn_go (tp := tp) hlt (tq_ldt (by omega))
        have hle := tq_rn_len (tp := tp) (B := B) (i := j) (by omega)
        exact hstep hlt hu hle
      · rw [if_neg d195]
        refine hq_F.st (s' := (298, _, _, _)) hg176_198 rfl rfl rfl (hs_if (ci_eq (by omega)) rfl) ?_
        have hu : tq_rn tp B j = [] := by
          by_cases h : j < B
          · rw [if_pos h] at hv182 hv192
            exact tq_rn_stop (tq_ldf (by omega) (by omega))
          · exact tq_rn_end (by omega)
        refine hQ w lv hC (af_Fr.rf _ _) (by rw [hu]; exact hp) (by rw [hu]; exact hsp) (by rw [hu]; rfl) (by rw [hu]; rfl) g0 g2 ?_
        rw [hu, List.all_nil, Bool.and_true]
        exact g3
def tq_tk (sl a : Bool) (n : Nat) : Int := if a = true ∧ n ≤ (if sl = true then 7 else 2) then (if sl = true then 1 else 2) else 4
theorem tm_T {d n : Nat} {w : pi_W} {lv : pi_L} {sl a : Bool} (hC : af_Conf aw_Sh w) (hn : (gv w 61 13).toInt = (n : Int)) (g0 : pi_get lv 0 = some (.ref 61)) (g2 : pi_get lv 2 = some (.int (tq_b sl))) (g3 : pi_get lv 3 = some (.int (tq_b a))) : hq_F d sm176 (fun r w' => r = none ∧ af_Conf aw_Sh w' ∧ af_Fr [(61, 11, 12)] w w' ∧ (gv w' 61 11).toInt = tq_tk sl a n) (298, lv, [], w) := by
  have kc0 : (((Int8.ofInt 7).toInt32)).toInt = 7 := by decide
  have kc1 : ((Int32.ofInt 1)).toInt = 1 := by decide
  have kc2 : ((Int32.ofInt 2)).toInt = 2 := by decide
  have kc3 : ((Int32.ofInt 4)).toInt = 4 := by decide
  have kz := sy_z0
  refine hq_F.st (s' := (299, _, _, _)) hg176_298 rfl rfl rfl (hs_al g0) ?_
  refine hq_F.st (s' := (300, _, _, _)) hg176_299 rfl rfl rfl (hs_iln g3) ?_
  by_cases b300 : (tq_b a).toInt = 0
  · skip
    refine hq_F.st (s' := (320, _, _, _)) hg176_300 rfl rfl rfl (hs_if (ci_eq (by omega)) rfl) ?_
    refine hq_F.st (s' := (321, _, _, _)) hg176_320 rfl rfl rfl rfl ?_
    refine hq_F.st (s' := (333, _, _, _)) hg176_321 rfl rfl rfl rfl ?_
    refine sy_pf hg176_333 hC sh_61 sk_11_152 (lo := 0) (hi := 4) rfl (by decide) rfl rfl rfl (fun w1 hC1 hw1 => ?_)
    refine hq_F.en hg176_336 rfl rfl ?_
    refine ⟨rfl, hC1, wpF hw1, ?_⟩
    rw [wpv hw1, if_pos ⟨rfl, rfl⟩]
    rw [tq_b_t] at b300
    revert b300
    cases a <;> cases sl <;> simp [tq_tk] <;> (try omega)
  · skip
    refine hq_F.st (s' := (303, _, _, _)) hg176_300 rfl rfl rfl (hs_ifn (t := 320) (ci_eqn (by omega)) rfl) ?_
    refine hq_F.st (s' := (304, _, _, _)) hg176_303 rfl rfl rfl (hs_al g0) ?_
    refine hq_F.st (s' := (307, _, _, _)) hg176_304 rfl rfl rfl (hq_gf hC sh_61 sk_11_149 (sy_v hC (by decide) rfl)) ?_
    refine hq_F.st (s' := (308, _, _, _)) hg176_307 rfl rfl rfl (hs_iln g2) ?_
    by_cases b308 : (tq_b sl).toInt = 0
    · skip
      refine hq_F.st (s' := (316, _, _, _)) hg176_308 rfl rfl rfl (hs_if (ci_eq (by omega)) rfl) ?_
      refine hq_F.st (s' := (317, _, _, _)) hg176_316 rfl rfl rfl rfl ?_
      by_cases b317 : ((gv w 61 13)).toInt ≤ 2
      · skip
        refine hq_F.st (s' := (324, _, _, _)) hg176_317 rfl rfl rfl (hs_ic (ci_le (by omega)) rfl) ?_
        refine hq_F.st (s' := (325, _, _, _)) hg176_324 rfl rfl rfl (hs_iln g2) ?_
        by_cases b325 : (tq_b sl).toInt = 0
        · skip
          refine hq_F.st (s' := (332, _, _, _)) hg176_325 rfl rfl rfl (hs_if (ci_eq (by omega)) rfl) ?_
          refine hq_F.st (s' := (333, _, _, _)) hg176_332 rfl rfl rfl rfl ?_
          refine sy_pf hg176_333 hC sh_61 sk_11_152 (lo := 0) (hi := 4) rfl (by decide) rfl rfl rfl (fun w2 hC2 hw2 => ?_)
          refine hq_F.en hg176_336 rfl rfl ?_
          refine ⟨rfl, hC2, wpF hw2, ?_⟩
          rw [wpv hw2, if_pos ⟨rfl, rfl⟩]
          rw [tq_b_t] at b300 b308 b325
          revert b300 b308 b317 b325
          rw [hn]
          cases a <;> cases sl <;> simp [tq_tk] <;> (try omega)
        · skip
          refine hq_F.st (s' := (328, _, _, _)) hg176_325 rfl rfl rfl (hs_ifn (t := 332) (ci_eqn (by omega)) rfl) ?_
          refine hq_F.st (s' := (329, _, _, _)) hg176_328 rfl rfl rfl rfl ?_
          refine hq_F.st (s' := (333, _, _, _)) hg176_329 rfl rfl rfl rfl ?_
          refine sy_pf hg176_333 hC sh_61 sk_11_152 (lo := 0) (hi := 4) rfl (by decide) rfl rfl rfl (fun w3 hC3 hw3 => ?_)
          refine hq_F.en hg176_336 rfl rfl ?_
          refine ⟨rfl, hC3, wpF hw3, ?_⟩
          rw [wpv hw3, if_pos ⟨rfl, rfl⟩]
          rw [tq_b_t] at b300 b308 b325
          revert b300 b308 b317 b325
          rw [hn]
          cases a <;> cases sl <;> simp [tq_tk] <;> (try omega)
      · skip
        refine hq_F.st (s' := (320, _, _, _)) hg176_317 rfl rfl rfl (hs_icn (t := 324) (ci_len (by omega)) rfl) ?_
        refine hq_F.st (s' := (321, _, _, _)) hg176_320 rfl rfl rfl rfl ?_
        refine hq_F.st (s' := (333, _, _, _)) hg176_321 rfl rfl rfl rfl ?_
        refine sy_pf hg176_333 hC sh_61 sk_11_152 (lo := 0) (hi := 4) rfl (by decide) rfl rfl rfl (fun w4 hC4 hw4 => ?_)
        refine hq_F.en hg176_336 rfl rfl ?_
        refine ⟨rfl, hC4, wpF hw4, ?_⟩
        rw [wpv hw4, if_pos ⟨rfl, rfl⟩]
        rw [tq_b_t] at b300 b308
        revert b300 b308 b317
        rw [hn]
        cases a <;> cases sl <;> simp [tq_tk] <;> (try omega)
    · skip
      refine hq_F.st (s' := (311, _, _, _)) hg176_308 rfl rfl rfl (hs_ifn (t := 316) (ci_eqn (by omega)) rfl) ?_
      refine hq_F.st (s' := (313, _, _, _)) hg176_311 rfl rfl rfl rfl ?_
      refine hq_F.st (s' := (317, _, _, _)) hg176_313 rfl rfl rfl rfl ?_
      by_cases b317 : ((gv w 61 13)).toInt ≤ 7
      · skip
        refine hq_F.st (s' := (324, _, _, _)) hg176_317 rfl rfl rfl (hs_ic (ci_le (by omega)) rfl) ?_
        refine hq_F.st (s' := (325, _, _, _)) hg176_324 rfl rfl rfl (hs_iln g2) ?_
        by_cases b325 : (tq_b sl).toInt = 0
        · skip
          refine hq_F.st (s' := (332, _, _, _)) hg176_325 rfl rfl rfl (hs_if (ci_eq (by omega)) rfl) ?_
          refine hq_F.st (s' := (333, _, _, _)) hg176_332 rfl rfl rfl rfl ?_
          refine sy_pf hg176_333 hC sh_61 sk_11_152 (lo := 0) (hi := 4) rfl (by decide) rfl rfl rfl (fun w5 hC5 hw5 => ?_)
          refine hq_F.en hg176_336 rfl rfl ?_
          refine ⟨rfl, hC5, wpF hw5, ?_⟩
          rw [wpv hw5, if_pos ⟨rfl, rfl⟩]
          rw [tq_b_t] at b300 b308 b325
          revert b300 b308 b317 b325
          rw [hn]
          cases a <;> cases sl <;> simp [tq_tk] <;> (try omega)
        · skip
          refine hq_F.st (s' := (328, _, _, _)) hg176_325 rfl rfl rfl (hs_ifn (t := 332) (ci_eqn (by omega)) rfl) ?_
          refine hq_F.st (s' := (329, _, _, _)) hg176_328 rfl rfl rfl rfl ?_
          refine hq_F.st (s' := (333, _, _, _)) hg176_329 rfl rfl rfl rfl ?_
          refine sy_pf hg176_333 hC sh_61 sk_11_152 (lo := 0) (hi := 4) rfl (by decide) rfl rfl rfl (fun w6 hC6 hw6 => ?_)
          refine hq_F.en hg176_336 rfl rfl ?_
          refine ⟨rfl, hC6, wpF hw6, ?_⟩
          rw [wpv hw6, if_pos ⟨rfl, rfl⟩]
          rw [tq_b_t] at b300 b308 b325
          revert b300 b308 b317 b325
          rw [hn]
          cases a <;> cases sl <;> simp [tq_tk] <;> (try omega)
      · skip
        refine hq_F.st (s' := (320, _, _, _)) hg176_317 rfl rfl rfl (hs_icn (t := 324) (ci_len (by omega)) rfl) ?_
        refine hq_F.st (s' := (321, _, _, _)) hg176_320 rfl rfl rfl rfl ?_
        refine hq_F.st (s' := (333, _, _, _)) hg176_321 rfl rfl rfl rfl ?_
        refine sy_pf hg176_333 hC sh_61 sk_11_152 (lo := 0) (hi := 4) rfl (by decide) rfl rfl rfl (fun w7 hC7 hw7 => ?_)
        refine hq_F.en hg176_336 rfl rfl ?_
        refine ⟨rfl, hC7, wpF hw7, ?_⟩
        rw [wpv hw7, if_pos ⟨rfl, rfl⟩]
        rw [tq_b_t] at b300 b308
        revert b300 b308 b317
        rw [hn]
        cases a <;> cases sl <;> simp [tq_tk] <;> (try omega)
/-- what reading the next TOKEN leaves in the model; s: where it begins -/
def tm_A (tp : Nat → Nat) (B M s : Nat) (w' : pi_W) : Prop :=
  (M < B ∧ M ≤ s → (gv w' 61 11).toInt = 4 ∧ (gv w' 61 12).toInt = (M : Int)) ∧
  (¬ (M < B ∧ M ≤ s) → (gv w' 61 12).toInt = (s : Int) ∧ (B ≤ s → (gv w' 61 11).toInt = 0) ∧
    (s < B → tq_ld (tp s) = true → (gv w' 61 4).toInt = ((s + (tq_rn tp B s).length : Nat) : Int) ∧ (gv w' 61 11).toInt = tq_tk (tq_sm (tp s)) ((tq_rn tp B s).all (fun c => tq_sm c == tq_sm (tp s))) (tq_rn tp B s).length ∧ gl w' 61 17 = tq_gw 0 0 (tq_rn tp B s) ∧ gv w' 61 14 = tq_gn 0 0 (tq_rn tp B s)) ∧
    (s < B → tq_ld (tp s) = false → (gv w' 61 4).toInt = ((s + 1 : Nat) : Int) ∧ (gv w' 61 14).toInt = (tp s : Int) ∧ (gv w' 61 11).toInt = (if tq_sg (tp s) = true then 3 else 4)))
theorem tm_176b {d B M s : Nat} {tp : Nat → Nat} {w : pi_W} {lv : pi_L} (hC : af_Conf aw_Sh w) (hP : tm_P tp B w) (hM : (gv w 61 5).toInt = (M : Int)) (hp : (gv w 61 4).toInt = (s : Int)) (hs : s ≤ B) (g0 : pi_get lv 0 = some (.ref 61)) : hq_F (d + 1) sm176 (fun r w' => r = none ∧ af_Conf aw_Sh w' ∧ af_Fr [(61, 4, 5), (61, 11, 15), (61, 17, 18)] w w' ∧ tm_A tp B M s w') (31, lv, [], w) := by
  obtain ⟨hB, hB9, htp⟩ := id hP
  have hM9 := sy_b hC (c := 61) (i := 5) (lo := 0) (hi := 900) (by decide) rfl
  have kc0 : (((Int8.ofInt 40).toInt32)).toInt = 40 := by decide
  have kc1 : (((Int8.ofInt 41).toInt32)).toInt = 41 := by decide
  have kc2 : (((Int8.ofInt 59).toInt32)).toInt = 59 := by decide
  have kc3 : (((Int8.ofInt 60).toInt32)).toInt = 60 := by decide
  have kc4 : (((Int8.ofInt 62).toInt32)).toInt = 62 := by decide
  have kc5 : ((0 : Int32)).toInt = 0 := by decide
  have kc6 : ((1 : Int32)).toInt = 1 := by decide
  have kc7 : ((Int32.ofInt 0)).toInt = 0 := by decide
  have kc8 : ((Int32.ofInt 1)).toInt = 1 := by decide
  have kc9 : ((Int32.ofInt 3)).toInt = 3 := by decide
  have kc10 : ((Int32.ofInt 4)).toInt = 4 := by decide
  have kz := sy_z0
  refine hq_F.st (s' := (32, _, _, _)) hg176_31 rfl rfl rfl (hs_al g0) ?_
  refine hq_F.st (s' := (33, _, _, _)) hg176_32 rfl rfl rfl (hs_al g0) ?_
  refine hq_F.st (s' := (36, _, _, _)) hg176_33 rfl rfl rfl (hq_gf hC sh_61 sk_11_21 (sy_v hC (by decide) rfl)) ?_
  refine sy_pf hg176_36 hC sh_61 sk_11_146 (lo := 0) (hi := 940) rfl (by omega) rfl rfl rfl (fun w1 hC1 hw1 => ?_)
  refine hq_F.st (s' := (40, _, _, _)) hg176_39 rfl rfl rfl (hs_al g0) ?_
  refine hq_F.st (s' := (41, _, _, _)) hg176_40 rfl rfl rfl rfl ?_
  refine sy_pf hg176_41 hC1 sh_61 sk_11_149 (lo := -2147483648) (hi := 2147483647) rfl (af_i32 _) rfl rfl rfl (fun w2 hC2 hw2 => ?_)
  refine hq_F.st (s' := (45, _, _, _)) hg176_44 rfl rfl rfl (hs_al g0) ?_
  refine hq_F.st (s' := (48, _, _, _)) hg176_45 rfl rfl rfl (hq_gf hC2 sh_61 sk_11_18 (sy_v hC2 (by decide) rfl)) ?_
  have q45 : (gv w2 61 3).toInt = (gv w 61 3).toInt := by rw [wpv hw2, if_neg (by decide), wpv hw1, if_neg (by decide)]
  refine hq_F.st (s' := (49, _, _, _)) hg176_48 rfl rfl rfl (hs_al g0) ?_
  refine hq_F.st (s' := (52, _, _, _)) hg176_49 rfl rfl rfl (hq_gf hC2 sh_61 sk_11_24 (sy_v hC2 (by decide) rfl)) ?_
  have q49 : (gv w2 61 5).toInt = (gv w 61 5).toInt := by rw [wpv hw2, if_neg (by decide), wpv hw1, if_neg (by decide)]
  by_cases b52 : ((gv w2 61 3)).toInt ≤ ((gv w2 61 5)).toInt
  · skip
    refine hq_F.st (s' := (80, _, _, _)) hg176_52 rfl rfl rfl (hs_ic (ci_le (by omega)) rfl) ?_
    refine hq_F.st (s' := (81, _, _, _)) hg176_80 rfl rfl rfl (hs_al g0) ?_
    refine hq_F.call hg176_81 rfl rfl si_11_142 (by decide) (by decide) sz_173 (sy_argsV hC2 sh_61 rfl rfl rfl (Nat.le_of_ble_eq_true rfl) rfl (Nat.le_of_ble_eq_true rfl) rfl (by decide)) (tm_pk hC2 (hP.fr (((wpF hw1).cov (M := [(61, 4, 19)]) (by decide)).tr ((wpF hw2).cov (M := [(61, 4, 19)]) (by decide))) (by decide) (by decide)) (p := s) (by rw [wpv hw2, if_neg (by decide), wpv hw1, if_neg (by decide)]; exact hp)) (fun _ _ q => by rw [q.1]) ?_
    rintro r81 w2 ⟨rfl, v81, rfl, hv81⟩
    try dsimp only
    refine hq_F.st (s' := (85, _, _, _)) hg176_84 rfl rfl rfl rfl ?_
    refine hq_F.st (s' := (86, _, _, _)) hg176_85 rfl rfl rfl (hs_iln (pi_get_set _ _ _)) ?_
    by_cases b86 : 0 ≤ (v81).toInt
    · skip
      refine hq_F.st (s' := (95, _, _, _)) hg176_86 rfl rfl rfl (hs_if (ci_ge (by omega)) rfl) ?_
      refine hq_F.st (s' := (96, _, _, _)) hg176_95 rfl rfl rfl (hs_iln (pi_get_set _ _ _)) ?_
      refine hq_F.call hg176_96 rfl rfl si_11_155 (by decide) (by decide) sz_174 (sy_argsS rfl rfl rfl (Nat.le_of_ble_eq_true rfl) (by decide) rfl (Nat.le_of_ble_eq_true rfl) (by decide)) (tm_174 (x := v81)) (fun _ _ q => by rw [q.1]) ?_
      rintro r96 w2 ⟨rfl, rfl⟩
      try dsimp only
      by_cases l96 : 97 ≤ (v81).toInt ∧ (v81).toInt ≤ 122
      · rw [if_pos l96]
        refine hq_F.st (s' := (164, _, _, _)) hg176_99 rfl rfl rfl (hs_if (ci_ne (by omega)) rfl) ?_
        refine hq_F.st (s' := (165, _, _, _)) hg176_164 rfl rfl rfl (hs_iln (pi_get_set _ _ _)) ?_
        refine hq_F.call hg176_165 rfl rfl si_11_155 (by decide) (by decide) sz_174 (sy_argsS rfl rfl rfl (Nat.le_of_ble_eq_true rfl) (by decide) rfl (Nat.le_of_ble_eq_true rfl) (by decide)) (tm_174 (x := v81)) (fun _ _ q => by rw [q.1]) ?_
        rintro r165 w2 ⟨rfl, rfl⟩
        try dsimp only
        by_cases l165 : 97 ≤ (v81).toInt ∧ (v81).toInt ≤ 122
        · rw [if_pos l165]
          refine hq_F.st (s' := (169, _, _, _)) hg176_168 rfl rfl rfl rfl ?_
          refine hq_F.st (s' := (170, _, _, _)) hg176_169 rfl rfl rfl rfl ?_
          refine hq_F.st (s' := (171, _, _, _)) hg176_170 rfl rfl rfl rfl ?_
          refine hq_F.st (s' := (172, _, _, _)) hg176_171 rfl rfl rfl (hs_al (hg_nr (hg_nr (hg_nr g0 (by decide)) (by decide)) (by decide))) ?_
          refine hq_F.st (s' := (173, _, _, _)) hg176_172 rfl rfl rfl rfl ?_
          refine sy_pl hg176_173 hC2 sh_61 sk_11_165 rfl rfl rfl rfl (fun w3 hC3 hw3 => ?_)
          refine hq_F.st (s' := (177, _, _, _)) hg176_176 rfl rfl rfl (hs_al (hg_nr (hg_nr (hg_nr g0 (by decide)) (by decide)) (by decide))) ?_
          refine hq_F.st (s' := (178, _, _, _)) hg176_177 rfl rfl rfl rfl ?_
          refine sy_pf hg176_178 hC3 sh_61 sk_11_162 (lo := -2147483648) (hi := 2147483647) rfl (af_i32 _) rfl rfl rfl (fun w4 hC4 hw4 => ?_)
          have hlt : s < B := by
            by_cases h : s < B
            · exact h
            · rw [if_neg h] at hv81
              omega
          have hv9 := hv81
          rw [if_pos hlt] at hv9
          have hsm : tq_sm (tp s) = true := tq_smt (by omega)
          have hld : tq_ld (tp s) = true := tq_ldt (by omega)
          refine tm_run (d := d) (sl := true) (B - s + 1) s 0 true (by omega) (by omega) (by omega) hC4 (hP.fr (((wpF hw1).cov (M := [(61, 4, 19)]) (by decide)).tr (((wpF hw2).cov (M := [(61, 4, 19)]) (by decide)).tr (((wpF hw3).cov (M := [(61, 4, 19)]) (by decide)).tr ((wpF hw4).cov (M := [(61, 4, 19)]) (by decide))))) (by decide) (by decide)) (by rw [wpv hw4, if_neg (by decide), wplv hw3, if_neg (by decide), wpv hw2, if_neg (by decide), wpv hw1, if_neg (by decide)]; exact hp) (by rw [wpv hw4, if_neg (by decide), wplv hw3, if_neg (by decide), wpv hw2, if_pos ⟨rfl, rfl⟩]; decide) (hg_nr (hg_nr (hg_nr g0 (by decide)) (by decide)) (by decide)) (hg_ne (pi_get_set _ _ _) (by decide)) (pi_get_set _ _ _) ?_
          intro w9 lv9 k1 k2 k3 k4 k5 k6 k7 k8 k9
          rw [Nat.zero_add] at k4
          refine (tm_T k1 k4 k7 k8 k9).imp (fun r w8 q => ?_)
          obtain ⟨q1, q2, q3, q4⟩ := q
          refine ⟨q1, q2, (((wpF hw1).cov (by decide)).tr (((wpF hw2).cov (by decide)).tr (((wpF hw3).cov (by decide)).tr ((wpF hw4).cov (by decide))))).tr ((k2.cov (by decide)).tr (q3.cov (by decide))), ?_, ?_⟩
          · intro h
            exact absurd h (by omega)
          · intro _
            refine ⟨by rw [gv_eq (q3 61 12 (by decide)), gv_eq (k2 61 12 (by decide)), wpv hw4, if_neg (by decide), wplv hw3, if_neg (by decide), wpv hw2, if_neg (by decide), wpv hw1, if_pos ⟨rfl, rfl⟩]; exact hp, fun h => absurd h (by omega), fun _ _ => ?_, fun _ h => by rw [hld] at h; cases h⟩
            rw [hsm]
            refine ⟨by rw [gv_eq (q3 61 4 (by decide))]; exact k3, by rw [q4, Bool.true_and], ?_, ?_⟩
            · rw [gl_eq (q3 61 17 (by decide)), k5, wpvl hw4, if_neg (by decide), wpl hw3, if_pos ⟨rfl, rfl⟩]
              rfl
            · rw [gv_eq (q3 61 14 (by decide)), k6, wpv hw4, if_pos ⟨rfl, rfl⟩]
              rfl
        · rw [if_neg l165]
          refine hq_F.st (s' := (169, _, _, _)) hg176_168 rfl rfl rfl rfl ?_
          refine hq_F.st (s' := (170, _, _, _)) hg176_169 rfl rfl rfl rfl ?_
          refine hq_F.st (s' := (171, _, _, _)) hg176_170 rfl rfl rfl rfl ?_
          refine hq_F.st (s' := (172, _, _, _)) hg176_171 rfl rfl rfl (hs_al (hg_nr (hg_nr (hg_nr g0 (by decide)) (by decide)) (by decide))) ?_
          refine hq_F.st (s' := (173, _, _, _)) hg176_172 rfl rfl rfl rfl ?_
          refine sy_pl hg176_173 hC2 sh_61 sk_11_165 rfl rfl rfl rfl (fun w5 hC5 hw5 => ?_)
          refine hq_F.st (s' := (177, _, _, _)) hg176_176 rfl rfl rfl (hs_al (hg_nr (hg_nr (hg_nr g0 (by decide)) (by decide)) (by decide))) ?_
          refine hq_F.st (s' := (178, _, _, _)) hg176_177 rfl rfl rfl rfl ?_
          refine sy_pf hg176_178 hC5 sh_61 sk_11_162 (lo := -2147483648) (hi := 2147483647) rfl (af_i32 _) rfl rfl rfl (fun w6 hC6 hw6 => ?_)
          have hlt : s < B := by
            by_cases h : s < B
            · exact h
            · rw [if_neg h] at hv81
              omega
          have hv9 := hv81
          rw [if_pos hlt] at hv9
          have hsm : tq_sm (tp s) = false := tq_smf (by omega)
          have hld : tq_ld (tp s) = true := tq_ldt (by omega)
          refine tm_run (d := d) (sl := false) (B - s + 1) s 0 true (by omega) (by omega) (by omega) hC6 (hP.fr (((wpF hw1).cov (M := [(61, 4, 19)]) (by decide)).tr (((wpF hw2).cov (M := [(61, 4, 19)]) (by decide)).tr (((wpF hw5).cov (M := [(61, 4, 19)]) (by decide)).tr ((wpF hw6).cov (M := [(61, 4, 19)]) (by decide))))) (by decide) (by decide)) (by rw [wpv hw6, if_neg (by decide), wplv hw5, if_neg (by decide), wpv hw2, if_neg (by decide), wpv hw1, if_neg (by decide)]; exact hp) (by rw [wpv hw6, if_neg (by decide), wplv hw5, if_neg (by decide), wpv hw2, if_pos ⟨rfl, rfl⟩]; decide) (hg_nr (hg_nr (hg_nr g0 (by decide)) (by decide)) (by decide)) (hg_ne (pi_get_set _ _ _) (by decide)) (pi_get_set _ _ _) ?_
          intro w9 lv9 k1 k2 k3 k4 k5 k6 k7 k8 k9
          rw [Nat.zero_add] at k4
          refine (tm_T k1 k4 k7 k8 k9).imp (fun r w8 q => ?_)
          obtain ⟨q1, q2, q3, q4⟩ := q
          refine ⟨q1, q2, (((wpF hw1).cov (by decide)).tr (((wpF hw2).cov (by decide)).tr (((wpF hw5).cov (by decide)).tr ((wpF hw6).cov (by decide))))).tr ((k2.cov (by decide)).tr (q3.cov (by decide))), ?_, ?_⟩
          · intro h
            exact absurd h (by omega)
          · intro _
            refine ⟨by rw [gv_eq (q3 61 12 (by decide)), gv_eq (k2 61 12 (by decide)), wpv hw6, if_neg (by decide), wplv hw5, if_neg (by decide), wpv hw2, if_neg (by decide), wpv hw1, if_pos ⟨rfl, rfl⟩]; exact hp, fun h => absurd h (by omega), fun _ _ => ?_, fun _ h => by rw [hld] at h; cases h⟩
            rw [hsm]
            refine ⟨by rw [gv_eq (q3 61 4 (by decide))]; exact k3, by rw [q4, Bool.true_and], ?_, ?_⟩
            · rw [gl_eq (q3 61 17 (by decide)), k5, wpvl hw6, if_neg (by decide), wpl hw5, if_pos ⟨rfl, rfl⟩]
              rfl
            · rw [gv_eq (q3 61 14 (by decide)), k6, wpv hw6, if_pos ⟨rfl, rfl⟩]
              rfl
      · rw [if_neg l96]
        refine hq_F.st (s' := (102, _, _, _)) hg176_99 rfl rfl rfl (hs_ifn (t := 164) (ci_nen (by omega)) rfl) ?_
        refine hq_F.st (s' := (103, _, _, _)) hg176_102 rfl rfl rfl (hs_iln (pi_get_set _ _ _)) ?_
        refine hq_F.call hg176_103 rfl rfl si_11_159 (by decide) (by decide) sz_175 (sy_argsS rfl rfl rfl (Nat.le_of_ble_eq_true rfl) (by decide) rfl (Nat.le_of_ble_eq_true rfl) (by decide)) (tm_175 (x := v81)) (fun _ _ q => by rw [q.1]) ?_
        rintro r103 w2 ⟨rfl, rfl⟩
        try dsimp only
        by_cases d103 : 48 ≤ (v81).toInt ∧ (v81).toInt ≤ 57
        · rw [if_pos d103]
          refine hq_F.st (s' := (164, _, _, _)) hg176_106 rfl rfl rfl (hs_if (ci_ne (by omega)) rfl) ?_
          refine hq_F.st (s' := (165, _, _, _)) hg176_164 rfl rfl rfl (hs_iln (pi_get_set _ _ _)) ?_
          refine hq_F.call hg176_165 rfl rfl si_11_155 (by decide) (by decide) sz_174 (sy_argsS rfl rfl rfl (Nat.le_of_ble_eq_true rfl) (by decide) rfl (Nat.le_of_ble_eq_true rfl) (by decide)) (tm_174 (x := v81)) (fun _ _ q => by rw [q.1]) ?_
          rintro r165 w2 ⟨rfl, rfl⟩
          try dsimp only
          by_cases l165 : 97 ≤ (v81).toInt ∧ (v81).toInt ≤ 122
          · rw [if_pos l165]
            refine hq_F.st (s' := (169, _, _, _)) hg176_168 rfl rfl rfl rfl ?_
            refine hq_F.st (s' := (170, _, _, _)) hg176_169 rfl rfl rfl rfl ?_
            refine hq_F.st (s' := (171, _, _, _)) hg176_170 rfl rfl rfl rfl ?_
            refine hq_F.st (s' := (172, _, _, _)) hg176_171 rfl rfl rfl (hs_al (hg_nr (hg_nr (hg_nr g0 (by decide)) (by decide)) (by decide))) ?_
            refine hq_F.st (s' := (173, _, _, _)) hg176_172 rfl rfl rfl rfl ?_
            refine sy_pl hg176_173 hC2 sh_61 sk_11_165 rfl rfl rfl rfl (fun w7 hC7 hw7 => ?_)
            refine hq_F.st (s' := (177, _, _, _)) hg176_176 rfl rfl rfl (hs_al (hg_nr (hg_nr (hg_nr g0 (by decide)) (by decide)) (by decide))) ?_
            refine hq_F.st (s' := (178, _, _, _)) hg176_177 rfl rfl rfl rfl ?_
            refine sy_pf hg176_178 hC7 sh_61 sk_11_162 (lo := -2147483648) (hi := 2147483647) rfl (af_i32 _) rfl rfl rfl (fun w8 hC8 hw8 => ?_)
            have hlt : s < B := by
              by_cases h : s < B
              · exact h
              · rw [if_neg h] at hv81
                omega
            have hv9 := hv81
            rw [if_pos hlt] at hv9
            have hsm : tq_sm (tp s) = true := tq_smt (by omega)
            have hld : tq_ld (tp s) = true := tq_ldt (by omega)
            refine tm_run (d := d) (sl := true) (B - s + 1) s 0 true (by omega) (by omega) (by omega) hC8 (hP.fr (((wpF hw1).cov (M := [(61, 4, 19)]) (by decide)).tr (((wpF hw2).cov (M := [(61, 4, 19)]) (by decide)).tr (((wpF hw7).cov (M := [(61, 4, 19)]) (by decide)).tr ((wpF hw8).cov (M := [(61, 4, 19)]) (by decide))))) (by decide) (by decide)) (by rw [wpv hw8, if_neg (by decide), wplv hw7, if_neg (by decide), wpv hw2, if_neg (by decide), wpv hw1, if_neg (by decide)]; exact hp) (by rw [wpv hw8, if_neg (by decide), wplv hw7, if_neg (by decide), wpv hw2, if_pos ⟨rfl, rfl⟩]; decide) (hg_nr (hg_nr (hg_nr g0 (by decide)) (by decide)) (by decide)) (hg_ne (pi_get_set _ _ _) (by decide)) (pi_get_set _ _ _) ?_
            intro w9 lv9 k1 k2 k3 k4 k5 k6 k7 k8 k9
            rw [Nat.zero_add] at k4
            refine (tm_T k1 k4 k7 k8 k9).imp (fun r w8 q => ?_)
            obtain ⟨q1, q2, q3, q4⟩ := q
            refine ⟨q1, q2, (((wpF hw1).cov (by decide)).tr (((wpF hw2).cov (by decide)).tr (((wpF hw7).cov (by decide)).tr ((wpF hw8).cov (by decide))))).tr ((k2.cov (by decide)).tr (q3.cov (by decide))), ?_, ?_⟩
            · intro h
              exact absurd h (by omega)
            · intro _
              refine ⟨by rw [gv_eq (q3 61 12 (by decide)), gv_eq (k2 61 12 (by decide)), wpv hw8, if_neg (by decide), wplv hw7, if_neg (by decide), wpv hw2, if_neg (by decide), wpv hw1, if_pos ⟨rfl, rfl⟩]; exact hp, fun h => absurd h (by omega), fun _ _ => ?_, fun _ h => by rw [hld] at h; cases h⟩
              rw [hsm]
              refine ⟨by rw [gv_eq (q3 61 4 (by decide))]; exact k3, by rw [q4, Bool.true_and], ?_, ?_⟩
              · rw [gl_eq (q3 61 17 (by decide)), k5, wpvl hw8, if_neg (by decide), wpl hw7, if_pos ⟨rfl, rfl⟩]
                rfl
              · rw [gv_eq (q3 61 14 (by decide)), k6, wpv hw8, if_pos ⟨rfl, rfl⟩]
                rfl
          · rw [if_neg l165]
            refine hq_F.st (s' := (169, _, _, _)) hg176_168 rfl rfl rfl rfl ?_
            refine hq_F.st (s' := (170, _, _, _)) hg176_169 rfl rfl rfl rfl ?_
            refine hq_F.st (s' := (171, _, _, _)) hg176_170 rfl rfl rfl rfl ?_
            refine hq_F.st (s' := (172, _, _, _)) hg176_171 rfl rfl rfl (hs_al (hg_nr (hg_nr (hg_nr g0 (by decide)) (by decide)) (by decide))) ?_
            refine hq_F.st (s' := (173, _, _, _)) hg176_172 rfl rfl rfl rfl ?_
            refine sy_pl hg176_173 hC2 sh_61 sk_11_165 rfl rfl rfl rfl (fun w9 hC9 hw9 => ?_)
            refine hq_F.st (s' := (177, _, _, _)) hg176_176 rfl rfl rfl (hs_al (hg_nr (hg_nr (hg_nr g0 (by decide)) (by decide)) (by decide))) ?_
            refine hq_F.st (s' := (178, _, _, _)) hg176_177 rfl rfl rfl rfl ?_
            refine sy_pf hg176_178 hC9 sh_61 sk_11_162 (lo := -2147483648) (hi := 2147483647) rfl (af_i32 _) rfl rfl rfl (fun w10 hC10 hw10 => ?_)
            have hlt : s < B := by
              by_cases h : s < B
              · exact h
              · rw [if_neg h] at hv81
                omega
            have hv9 := hv81
            rw [if_pos hlt] at hv9
            have hsm : tq_sm (tp s) = false := tq_smf (by omega)
            have hld : tq_ld (tp s) = true := tq_ldt (by omega)
            refine tm_run (d := d) (sl := false) (B - s + 1) s 0 true (by omega) (by omega) (by omega) hC10 (hP.fr (((wpF hw1).cov (M := [(61, 4, 19)]) (by decide)).tr (((wpF hw2).cov (M := [(61, 4, 19)]) (by decide)).tr (((wpF hw9).cov (M := [(61, 4, 19)]) (by decide)).tr ((wpF hw10).cov (M := [(61, 4, 19)]) (by decide))))) (by decide) (by decide)) (by rw [wpv hw10, if_neg (by decide), wplv hw9, if_neg (by decide), wpv hw2, if_neg (by decide), wpv hw1, if_neg (by decide)]; exact hp) (by rw [wpv hw10, if_neg (by decide), wplv hw9, if_neg (by decide), wpv hw2, if_pos ⟨rfl, rfl⟩]; decide) (hg_nr (hg_nr (hg_nr g0 (by decide)) (by decide)) (by decide)) (hg_ne (pi_get_set _ _ _) (by decide)) (pi_get_set _ _ _) ?_
            intro w9 lv9 k1 k2 k3 k4 k5 k6 k7 k8 k9
            rw [Nat.zero_add] at k4
            refine (tm_T k1 k4 k7 k8 k9).imp (fun r w8 q => ?_)
            obtain ⟨q1, q2, q3, q4⟩ := q
            refine ⟨q1, q2, (((wpF hw1).cov (by decide)).tr (((wpF hw2).cov (by decide)).tr (((wpF hw9).cov (by decide)).tr ((wpF hw10).cov (by decide))))).tr ((k2.cov (by decide)).tr (q3.cov (by decide))), ?_, ?_⟩
            · intro h
              exact absurd h (by omega)
            · intro _
              refine ⟨by rw [gv_eq (q3 61 12 (by decide)), gv_eq (k2 61 12 (by decide)), wpv hw10, if_neg (by decide), wplv hw9, if_neg (by decide), wpv hw2, if_neg (by decide), wpv hw1, if_pos ⟨rfl, rfl⟩]; exact hp, fun h => absurd h (by omega), fun _ _ => ?_, fun _ h => by rw [hld] at h; cases h⟩
              rw [hsm]
              refine ⟨by rw [gv_eq (q3 61 4 (by decide))]; exact k3, by rw [q4, Bool.true_and], ?_, ?_⟩
              · rw [gl_eq (q3 61 17 (by decide)), k5, wpvl hw10, if_neg (by decide), wpl hw9, if_pos ⟨rfl, rfl⟩]
                rfl
              · rw [gv_eq (q3 61 14 (by decide)), k6, wpv hw10, if_pos ⟨rfl, rfl⟩]
                rfl
        · rw [if_neg d103]
          refine hq_F.st (s' := (109, _, _, _)) hg176_106 rfl rfl rfl (hs_ifn (t := 164) (ci_nen (by omega)) rfl) ?_
          refine hq_F.st (s' := (110, _, _, _)) hg176_109 rfl rfl rfl (hs_al (hg_nr g0 (by decide))) ?_
          refine hq_F.st (s' := (111, _, _, _)) hg176_110 rfl rfl rfl (hs_iln (pi_get_set _ _ _)) ?_
          refine hq_F.st (s' := (113, _, _, _)) hg176_111 rfl rfl rfl rfl ?_
          by_cases b113 : (v81).toInt = 59
          · skip
            refine hq_F.st (s' := (140, _, _, _)) hg176_113 rfl rfl rfl (hs_ic (ci_eq (by omega)) rfl) ?_
            refine hq_F.st (s' := (141, _, _, _)) hg176_140 rfl rfl rfl rfl ?_
            refine hq_F.st (s' := (145, _, _, _)) hg176_141 rfl rfl rfl rfl ?_
            refine sy_pf hg176_145 hC2 sh_61 sk_11_152 (lo := 0) (hi := 4) rfl (by decide) rfl rfl rfl (fun w11 hC11 hw11 => ?_)
            refine hq_F.st (s' := (149, _, _, _)) hg176_148 rfl rfl rfl (hs_al (hg_nr g0 (by decide))) ?_
            refine hq_F.st (s' := (150, _, _, _)) hg176_149 rfl rfl rfl (hs_iln (pi_get_set _ _ _)) ?_
            refine sy_pf hg176_150 hC11 sh_61 sk_11_162 (lo := -2147483648) (hi := 2147483647) rfl (af_i32 _) rfl rfl rfl (fun w12 hC12 hw12 => ?_)
            have hlt : s < B := by
              by_cases h : s < B
              · exact h
              · rw [if_neg h] at hv81
                omega
            have hp3 : (gv w12 61 4).toInt = (s : Int) := by rw [wpv hw12, if_neg (by decide), wpv hw11, if_neg (by decide), wpv hw2, if_neg (by decide), wpv hw1, if_neg (by decide)]; exact hp
            have hin := sy_inc hp3 (by omega)
            refine hq_F.st (s' := (154, _, _, _)) hg176_153 rfl rfl rfl (hs_al (hg_nr g0 (by decide))) ?_
            refine hq_F.st (s' := (155, _, _, _)) hg176_154 rfl rfl rfl rfl ?_
            refine hq_F.st (s' := (158, _, _, _)) hg176_155 rfl rfl rfl (hq_gf hC12 sh_61 sk_11_21 (sy_v hC12 (by decide) rfl)) ?_
            have q155 : (gv w12 61 4).toInt = (gv w 61 4).toInt := by rw [wpv hw12, if_neg (by decide), wpv hw11, if_neg (by decide), wpv hw2, if_neg (by decide), wpv hw1, if_neg (by decide)]
            refine hq_F.st (s' := (159, _, _, _)) hg176_158 rfl rfl rfl rfl ?_
            refine hq_F.st (s' := (160, _, _, _)) hg176_159 rfl rfl rfl rfl ?_
            refine sy_pf hg176_160 hC12 sh_61 sk_11_21 (lo := 0) (hi := 940) rfl (by omega) rfl rfl rfl (fun w13 hC13 hw13 => ?_)
            refine hq_F.en hg176_163 rfl rfl ?_
            refine ⟨rfl, hC13, (((wpF hw1).cov (by decide)).tr (((wpF hw2).cov (by decide)).tr (((wpF hw11).cov (by decide)).tr (((wpF hw12).cov (by decide)).tr ((wpF hw13).cov (by decide)))))), ?_, ?_⟩
            · intro h
              exact absurd h (by omega)
            · intro _
              refine ⟨by rw [wpv hw13, if_neg (by decide), wpv hw12, if_neg (by decide), wpv hw11, if_neg (by decide), wpv hw2, if_neg (by decide), wpv hw1, if_pos ⟨rfl, rfl⟩]; exact hp, ?_, ?_, ?_⟩
              · intro h
                rw [if_neg (by omega)] at hv81
                omega
              · intro h1 h2
                rw [if_pos h1] at hv81
                rw [tq_ldf (by omega) (by omega)] at h2
                cases h2
              · intro h1 _
                rw [if_pos h1] at hv81
                refine ⟨?_, ?_, ?_⟩
                · rw [wpv hw13, if_pos ⟨rfl, rfl⟩]
                  exact hin
                · rw [wpv hw13, if_neg (by decide), wpv hw12, if_pos ⟨rfl, rfl⟩]
                  exact hv81
                · rw [wpv hw13, if_neg (by decide), wpv hw12, if_neg (by decide), wpv hw11, if_pos ⟨rfl, rfl⟩, if_pos (by simp only [tq_sg, Bool.or_eq_true, decide_eq_true_eq]; omega)]
                  decide
          · skip
            refine hq_F.st (s' := (116, _, _, _)) hg176_113 rfl rfl rfl (hs_icn (t := 140) (ci_eqn (by omega)) rfl) ?_
            refine hq_F.st (s' := (117, _, _, _)) hg176_116 rfl rfl rfl (hs_iln (pi_get_set _ _ _)) ?_
            refine hq_F.st (s' := (119, _, _, _)) hg176_117 rfl rfl rfl rfl ?_
            by_cases b119 : (v81).toInt = 40
            · skip
              refine hq_F.st (s' := (140, _, _, _)) hg176_119 rfl rfl rfl (hs_ic (ci_eq (by omega)) rfl) ?_
              refine hq_F.st (s' := (141, _, _, _)) hg176_140 rfl rfl rfl rfl ?_
              refine hq_F.st (s' := (145, _, _, _)) hg176_141 rfl rfl rfl rfl ?_
              refine sy_pf hg176_145 hC2 sh_61 sk_11_152 (lo := 0) (hi := 4) rfl (by decide) rfl rfl rfl (fun w14 hC14 hw14 => ?_)
              refine hq_F.st (s' := (149, _, _, _)) hg176_148 rfl rfl rfl (hs_al (hg_nr g0 (by decide))) ?_
              refine hq_F.st (s' := (150, _, _, _)) hg176_149 rfl rfl rfl (hs_iln (pi_get_set _ _ _)) ?_
              refine sy_pf hg176_150 hC14 sh_61 sk_11_162 (lo := -2147483648) (hi := 2147483647) rfl (af_i32 _) rfl rfl rfl (fun w15 hC15 hw15 => ?_)
              have hlt : s < B := by
                by_cases h : s < B
                · exact h
                · rw [if_neg h] at hv81
                  omega
              have hp3 : (gv w15 61 4).toInt = (s : Int) := by rw [wpv hw15, if_neg (by decide), wpv hw14, if_neg (by decide), wpv hw2, if_neg (by decide), wpv hw1, if_neg (by decide)]; exact hp
              have hin := sy_inc hp3 (by omega)
              refine hq_F.st (s' := (154, _, _, _)) hg176_153 rfl rfl rfl (hs_al (hg_nr g0 (by decide))) ?_
              refine hq_F.st (s' := (155, _, _, _)) hg176_154 rfl rfl rfl rfl ?_
              refine hq_F.st (s' := (158, _, _, _)) hg176_155 rfl rfl rfl (hq_gf hC15 sh_61 sk_11_21 (sy_v hC15 (by decide) rfl)) ?_
              have q155 : (gv w15 61 4).toInt = (gv w 61 4).toInt := by rw [wpv hw15, if_neg (by decide), wpv hw14, if_neg (by decide), wpv hw2, if_neg (by decide), wpv hw1, if_neg (by decide)]
              refine hq_F.st (s' := (159, _, _, _)) hg176_158 rfl rfl rfl rfl ?_
              refine hq_F.st (s' := (160, _, _, _)) hg176_159 rfl rfl rfl rfl ?_
              refine sy_pf hg176_160 hC15 sh_61 sk_11_21 (lo := 0) (hi := 940) rfl (by omega) rfl rfl rfl (fun w16 hC16 hw16 => ?_)
              refine hq_F.en hg176_163 rfl rfl ?_
              refine ⟨rfl, hC16, (((wpF hw1).cov (by decide)).tr (((wpF hw2).cov (by decide)).tr (((wpF hw14).cov (by decide)).tr (((wpF hw15).cov (by decide)).tr ((wpF hw16).cov (by decide)))))), ?_, ?_⟩
              · intro h
                exact absurd h (by omega)
              · intro _
                refine ⟨by rw [wpv hw16, if_neg (by decide), wpv hw15, if_neg (by decide), wpv hw14, if_neg (by decide), wpv hw2, if_neg (by decide), wpv hw1, if_pos ⟨rfl, rfl⟩]; exact hp, ?_, ?_, ?_⟩
                · intro h
                  rw [if_neg (by omega)] at hv81
                  omega
                · intro h1 h2
                  rw [if_pos h1] at hv81
                  rw [tq_ldf (by omega) (by omega)] at h2
                  cases h2
                · intro h1 _
                  rw [if_pos h1] at hv81
                  refine ⟨?_, ?_, ?_⟩
                  · rw [wpv hw16, if_pos ⟨rfl, rfl⟩]
                    exact hin
                  · rw [wpv hw16, if_neg (by decide), wpv hw15, if_pos ⟨rfl, rfl⟩]
                    exact hv81
                  · rw [wpv hw16, if_neg (by decide), wpv hw15, if_neg (by decide), wpv hw14, if_pos ⟨rfl, rfl⟩, if_pos (by simp only [tq_sg, Bool.or_eq_true, decide_eq_true_eq]; omega)]
                    decide
            · skip
              refine hq_F.st (s' := (122, _, _, _)) hg176_119 rfl rfl rfl (hs_icn (t := 140) (ci_eqn (by omega)) rfl) ?_
              refine hq_F.st (s' := (123, _, _, _)) hg176_122 rfl rfl rfl (hs_iln (pi_get_set _ _ _)) ?_
              refine hq_F.st (s' := (125, _, _, _)) hg176_123 rfl rfl rfl rfl ?_
              by_cases b125 : (v81).toInt = 41
              · skip
                refine hq_F.st (s' := (140, _, _, _)) hg176_125 rfl rfl rfl (hs_ic (ci_eq (by omega)) rfl) ?_
                refine hq_F.st (s' := (141, _, _, _)) hg176_140 rfl rfl rfl rfl ?_
                refine hq_F.st (s' := (145, _, _, _)) hg176_141 rfl rfl rfl rfl ?_
                refine sy_pf hg176_145 hC2 sh_61 sk_11_152 (lo := 0) (hi := 4) rfl (by decide) rfl rfl rfl (fun w17 hC17 hw17 => ?_)
                refine hq_F.st (s' := (149, _, _, _)) hg176_148 rfl rfl rfl (hs_al (hg_nr g0 (by decide))) ?_
                refine hq_F.st (s' := (150, _, _, _)) hg176_149 rfl rfl rfl (hs_iln (pi_get_set _ _ _)) ?_
                refine sy_pf hg176_150 hC17 sh_61 sk_11_162 (lo := -2147483648) (hi := 2147483647) rfl (af_i32 _) rfl rfl rfl (fun w18 hC18 hw18 => ?_)
                have hlt : s < B := by
                  by_cases h : s < B
                  · exact h
                  · rw [if_neg h] at hv81
                    omega
                have hp3 : (gv w18 61 4).toInt = (s : Int) := by rw [wpv hw18, if_neg (by decide), wpv hw17, if_neg (by decide), wpv hw2, if_neg (by decide), wpv hw1, if_neg (by decide)]; exact hp
                have hin := sy_inc hp3 (by omega)
                refine hq_F.st (s' := (154, _, _, _)) hg176_153 rfl rfl rfl (hs_al (hg_nr g0 (by decide))) ?_
                refine hq_F.st (s' := (155, _, _, _)) hg176_154 rfl rfl rfl rfl ?_
                refine hq_F.st (s' := (158, _, _, _)) hg176_155 rfl rfl rfl (hq_gf hC18 sh_61 sk_11_21 (sy_v hC18 (by decide) rfl)) ?_
                have q155 : (gv w18 61 4).toInt = (gv w 61 4).toInt := by rw [wpv hw18, if_neg (by decide), wpv hw17, if_neg (by decide), wpv hw2, if_neg (by decide), wpv hw1, if_neg (by decide)]
                refine hq_F.st (s' := (159, _, _, _)) hg176_158 rfl rfl rfl rfl ?_
                refine hq_F.st (s' := (160, _, _, _)) hg176_159 rfl rfl rfl rfl ?_
                refine sy_pf hg176_160 hC18 sh_61 sk_11_21 (lo := 0) (hi := 940) rfl (by omega) rfl rfl rfl (fun w19 hC19 hw19 => ?_)
                refine hq_F.en hg176_163 rfl rfl ?_
                refine ⟨rfl, hC19, (((wpF hw1).cov (by decide)).tr (((wpF hw2).cov (by decide)).tr (((wpF hw17).cov (by decide)).tr (((wpF hw18).cov (by decide)).tr ((wpF hw19).cov (by decide)))))), ?_, ?_⟩
                · intro h
                  exact absurd h (by omega)
                · intro _
                  refine ⟨by rw [wpv hw19, if_neg (by decide), wpv hw18, if_neg (by decide), wpv hw17, if_neg (by decide), wpv hw2, if_neg (by decide), wpv hw1, if_pos ⟨rfl, rfl⟩]; exact hp, ?_, ?_, ?_⟩
                  · intro h
                    rw [if_neg (by omega)] at hv81
                    omega
                  · intro h1 h2
                    rw [if_pos h1] at hv81
                    rw [tq_ldf (by omega) (by omega)] at h2
                    cases h2
                  · intro h1 _
                    rw [if_pos h1] at hv81
                    refine ⟨?_, ?_, ?_⟩
                    · rw [wpv hw19, if_pos ⟨rfl, rfl⟩]
                      exact hin
                    · rw [wpv hw19, if_neg (by decide), wpv hw18, if_pos ⟨rfl, rfl⟩]
                      exact hv81
                    · rw [wpv hw19, if_neg (by decide), wpv hw18, if_neg (by decide), wpv hw17, if_pos ⟨rfl, rfl⟩, if_pos (by simp only [tq_sg, Bool.or_eq_true, decide_eq_true_eq]; omega)]
                      decide
              · skip
                refine hq_F.st (s' := (128, _, _, _)) hg176_125 rfl rfl rfl (hs_icn (t := 140) (ci_eqn (by omega)) rfl) ?_
                refine hq_F.st (s' := (129, _, _, _)) hg176_128 rfl rfl rfl (hs_iln (pi_get_set _ _ _)) ?_
                refine hq_F.st (s' := (131, _, _, _)) hg176_129 rfl rfl rfl rfl ?_
                by_cases b131 : (v81).toInt < 60
                · skip
                  refine hq_F.st (s' := (144, _, _, _)) hg176_131 rfl rfl rfl (hs_ic (ci_lt (by omega)) rfl) ?_
                  refine hq_F.st (s' := (145, _, _, _)) hg176_144 rfl rfl rfl rfl ?_
                  refine sy_pf hg176_145 hC2 sh_61 sk_11_152 (lo := 0) (hi := 4) rfl (by decide) rfl rfl rfl (fun w20 hC20 hw20 => ?_)
                  refine hq_F.st (s' := (149, _, _, _)) hg176_148 rfl rfl rfl (hs_al (hg_nr g0 (by decide))) ?_
                  refine hq_F.st (s' := (150, _, _, _)) hg176_149 rfl rfl rfl (hs_iln (pi_get_set _ _ _)) ?_
                  refine sy_pf hg176_150 hC20 sh_61 sk_11_162 (lo := -2147483648) (hi := 2147483647) rfl (af_i32 _) rfl rfl rfl (fun w21 hC21 hw21 => ?_)
                  have hlt : s < B := by
                    by_cases h : s < B
                    · exact h
                    · rw [if_neg h] at hv81
                      omega
                  have hp3 : (gv w21 61 4).toInt = (s : Int) := by rw [wpv hw21, if_neg (by decide), wpv hw20, if_neg (by decide), wpv hw2, if_neg (by decide), wpv hw1, if_neg (by decide)]; exact hp
                  have hin := sy_inc hp3 (by omega)
                  refine hq_F.st (s' := (154, _, _, _)) hg176_153 rfl rfl rfl (hs_al (hg_nr g0 (by decide))) ?_
                  refine hq_F.st (s' := (155, _, _, _)) hg176_154 rfl rfl rfl rfl ?_
                  refine hq_F.st (s' := (158, _, _, _)) hg176_155 rfl rfl rfl (hq_gf hC21 sh_61 sk_11_21 (sy_v hC21 (by decide) rfl)) ?_
                  have q155 : (gv w21 61 4).toInt = (gv w 61 4).toInt := by rw [wpv hw21, if_neg (by decide), wpv hw20, if_neg (by decide), wpv hw2, if_neg (by decide), wpv hw1, if_neg (by decide)]
                  refine hq_F.st (s' := (159, _, _, _)) hg176_158 rfl rfl rfl rfl ?_
                  refine hq_F.st (s' := (160, _, _, _)) hg176_159 rfl rfl rfl rfl ?_
                  refine sy_pf hg176_160 hC21 sh_61 sk_11_21 (lo := 0) (hi := 940) rfl (by omega) rfl rfl rfl (fun w22 hC22 hw22 => ?_)
                  refine hq_F.en hg176_163 rfl rfl ?_
                  refine ⟨rfl, hC22, (((wpF hw1).cov (by decide)).tr (((wpF hw2).cov (by decide)).tr (((wpF hw20).cov (by decide)).tr (((wpF hw21).cov (by decide)).tr ((wpF hw22).cov (by decide)))))), ?_, ?_⟩
                  · intro h
                    exact absurd h (by omega)
                  · intro _
                    refine ⟨by rw [wpv hw22, if_neg (by decide), wpv hw21, if_neg (by decide), wpv hw20, if_neg (by decide), wpv hw2, if_neg (by decide), wpv hw1, if_pos ⟨rfl, rfl⟩]; exact hp, ?_, ?_, ?_⟩
                    · intro h
                      rw [if_neg (by omega)] at hv81
                      omega
                    · intro h1 h2
                      rw [if_pos h1] at hv81
                      rw [tq_ldf (by omega) (by omega)] at h2
                      cases h2
                    · intro h1 _
                      rw [if_pos h1] at hv81
                      refine ⟨?_, ?_, ?_⟩
                      · rw [wpv hw22, if_pos ⟨rfl, rfl⟩]
                        exact hin
                      · rw [wpv hw22, if_neg (by decide), wpv hw21, if_pos ⟨rfl, rfl⟩]
                        exact hv81
                      · rw [wpv hw22, if_neg (by decide), wpv hw21, if_neg (by decide), wpv hw20, if_pos ⟨rfl, rfl⟩, if_neg (by simp only [tq_sg, Bool.or_eq_true, decide_eq_true_eq]; omega)]
                        decide
                · skip
                  refine hq_F.st (s' := (134, _, _, _)) hg176_131 rfl rfl rfl (hs_icn (t := 144) (ci_ltn (by omega)) rfl) ?_
                  refine hq_F.st (s' := (135, _, _, _)) hg176_134 rfl rfl rfl (hs_iln (pi_get_set _ _ _)) ?_
                  refine hq_F.st (s' := (137, _, _, _)) hg176_135 rfl rfl rfl rfl ?_
                  by_cases b137 : 62 < (v81).toInt
                  · skip
                    refine hq_F.st (s' := (144, _, _, _)) hg176_137 rfl rfl rfl (hs_ic (ci_gt (by omega)) rfl) ?_
                    refine hq_F.st (s' := (145, _, _, _)) hg176_144 rfl rfl rfl rfl ?_
                    refine sy_pf hg176_145 hC2 sh_61 sk_11_152 (lo := 0) (hi := 4) rfl (by decide) rfl rfl rfl (fun w23 hC23 hw23 => ?_)
                    refine hq_F.st (s' := (149, _, _, _)) hg176_148 rfl rfl rfl (hs_al (hg_nr g0 (by decide))) ?_
                    refine hq_F.st (s' := (150, _, _, _)) hg176_149 rfl rfl rfl (hs_iln (pi_get_set _ _ _)) ?_
                    refine sy_pf hg176_150 hC23 sh_61 sk_11_162 (lo := -2147483648) (hi := 2147483647) rfl (af_i32 _) rfl rfl rfl (fun w24 hC24 hw24 => ?_)
                    have hlt : s < B := by
                      by_cases h : s < B
                      · exact h
                      · rw [if_neg h] at hv81
                        omega
                    have hp3 : (gv w24 61 4).toInt = (s : Int) := by rw [wpv hw24, if_neg (by decide), wpv hw23, if_neg (by decide), wpv hw2, if_neg (by decide), wpv hw1, if_neg (by decide)]; exact hp
                    have hin := sy_inc hp3 (by omega)
                    refine hq_F.st (s' := (154, _, _, _)) hg176_153 rfl rfl rfl (hs_al (hg_nr g0 (by decide))) ?_
                    refine hq_F.st (s' := (155, _, _, _)) hg176_154 rfl rfl rfl rfl ?_
                    refine hq_F.st (s' := (158, _, _, _)) hg176_155 rfl rfl rfl (hq_gf hC24 sh_61 sk_11_21 (sy_v hC24 (by decide) rfl)) ?_
                    have q155 : (gv w24 61 4).toInt = (gv w 61 4).toInt := by rw [wpv hw24, if_neg (by decide), wpv hw23, if_neg (by decide), wpv hw2, if_neg (by decide), wpv hw1, if_neg (by decide)]
                    refine hq_F.st (s' := (159, _, _, _)) hg176_158 rfl rfl rfl rfl ?_
                    refine hq_F.st (s' := (160, _, _, _)) hg176_159 rfl rfl rfl rfl ?_
                    refine sy_pf hg176_160 hC24 sh_61 sk_11_21 (lo := 0) (hi := 940) rfl (by omega) rfl rfl rfl (fun w25 hC25 hw25 => ?_)
                    refine hq_F.en hg176_163 rfl rfl ?_
                    refine ⟨rfl, hC25, (((wpF hw1).cov (by decide)).tr (((wpF hw2).cov (by decide)).tr (((wpF hw23).cov (by decide)).tr (((wpF hw24).cov (by decide)).tr ((wpF hw25).cov (by decide)))))), ?_, ?_⟩
                    · intro h
                      exact absurd h (by omega)
                    · intro _
                      refine ⟨by rw [wpv hw25, if_neg (by decide), wpv hw24, if_neg (by decide), wpv hw23, if_neg (by decide), wpv hw2, if_neg (by decide), wpv hw1, if_pos ⟨rfl, rfl⟩]; exact hp, ?_, ?_, ?_⟩
                      · intro h
                        rw [if_neg (by omega)] at hv81
                        omega
                      · intro h1 h2
                        rw [if_pos h1] at hv81
                        rw [tq_ldf (by omega) (by omega)] at h2
                        cases h2
                      · intro h1 _
                        rw [if_pos h1] at hv81
                        refine ⟨?_, ?_, ?_⟩
                        · rw [wpv hw25, if_pos ⟨rfl, rfl⟩]
                          exact hin
                        · rw [wpv hw25, if_neg (by decide), wpv hw24, if_pos ⟨rfl, rfl⟩]
                          exact hv81
                        · rw [wpv hw25, if_neg (by decide), wpv hw24, if_neg (by decide), wpv hw23, if_pos ⟨rfl, rfl⟩, if_neg (by simp only [tq_sg, Bool.or_eq_true, decide_eq_true_eq]; omega)]
                          decide
                  · skip
                    refine hq_F.st (s' := (140, _, _, _)) hg176_137 rfl rfl rfl (hs_icn (t := 144) (ci_gtn (by omega)) rfl) ?_
                    refine hq_F.st (s' := (141, _, _, _)) hg176_140 rfl rfl rfl rfl ?_
                    refine hq_F.st (s' := (145, _, _, _)) hg176_141 rfl rfl rfl rfl ?_
                    refine sy_pf hg176_145 hC2 sh_61 sk_11_152 (lo := 0) (hi := 4) rfl (by decide) rfl rfl rfl (fun w26 hC26 hw26 => ?_)
                    refine hq_F.st (s' := (149, _, _, _)) hg176_148 rfl rfl rfl (hs_al (hg_nr g0 (by decide))) ?_
                    refine hq_F.st (s' := (150, _, _, _)) hg176_149 rfl rfl rfl (hs_iln (pi_get_set _ _ _)) ?_
                    refine sy_pf hg176_150 hC26 sh_61 sk_11_162 (lo := -2147483648) (hi := 2147483647) rfl (af_i32 _) rfl rfl rfl (fun w27 hC27 hw27 => ?_)
                    have hlt : s < B := by
                      by_cases h : s < B
                      · exact h
                      · rw [if_neg h] at hv81
                        omega
                    have hp3 : (gv w27 61 4).toInt = (s : Int) := by rw [wpv hw27, if_neg (by decide), wpv hw26, if_neg (by decide), wpv hw2, if_neg (by decide), wpv hw1, if_neg (by decide)]; exact hp
                    have hin := sy_inc hp3 (by omega)
                    refine hq_F.st (s' := (154, _, _, _)) hg176_153 rfl rfl rfl (hs_al (hg_nr g0 (by decide))) ?_
                    refine hq_F.st (s' := (155, _, _, _)) hg176_154 rfl rfl rfl rfl ?_
                    refine hq_F.st (s' := (158, _, _, _)) hg176_155 rfl rfl rfl (hq_gf hC27 sh_61 sk_11_21 (sy_v hC27 (by decide) rfl)) ?_
                    have q155 : (gv w27 61 4).toInt = (gv w 61 4).toInt := by rw [wpv hw27, if_neg (by decide), wpv hw26, if_neg (by decide), wpv hw2, if_neg (by decide), wpv hw1, if_neg (by decide)]
                    refine hq_F.st (s' := (159, _, _, _)) hg176_158 rfl rfl rfl rfl ?_
                    refine hq_F.st (s' := (160, _, _, _)) hg176_159 rfl rfl rfl rfl ?_
                    refine sy_pf hg176_160 hC27 sh_61 sk_11_21 (lo := 0) (hi := 940) rfl (by omega) rfl rfl rfl (fun w28 hC28 hw28 => ?_)
                    refine hq_F.en hg176_163 rfl rfl ?_
                    refine ⟨rfl, hC28, (((wpF hw1).cov (by decide)).tr (((wpF hw2).cov (by decide)).tr (((wpF hw26).cov (by decide)).tr (((wpF hw27).cov (by decide)).tr ((wpF hw28).cov (by decide)))))), ?_, ?_⟩
                    · intro h
                      exact absurd h (by omega)
                    · intro _
                      refine ⟨by rw [wpv hw28, if_neg (by decide), wpv hw27, if_neg (by decide), wpv hw26, if_neg (by decide), wpv hw2, if_neg (by decide), wpv hw1, if_pos ⟨rfl, rfl⟩]; exact hp, ?_, ?_, ?_⟩
                      · intro h
                        rw [if_neg (by omega)] at hv81
                        omega
                      · intro h1 h2
                        rw [if_pos h1] at hv81
                        rw [tq_ldf (by omega) (by omega)] at h2
                        cases h2
                      · intro h1 _
                        rw [if_pos h1] at hv81
                        refine ⟨?_, ?_, ?_⟩
                        · rw [wpv hw28, if_pos ⟨rfl, rfl⟩]
                          exact hin
                        · rw [wpv hw28, if_neg (by decide), wpv hw27, if_pos ⟨rfl, rfl⟩]
                          exact hv81
                        · rw [wpv hw28, if_neg (by decide), wpv hw27, if_neg (by decide), wpv hw26, if_pos ⟨rfl, rfl⟩, if_pos (by simp only [tq_sg, Bool.or_eq_true, decide_eq_true_eq]; omega)]
                          decide
    · skip
      refine hq_F.st (s' := (89, _, _, _)) hg176_86 rfl rfl rfl (hs_ifn (t := 95) (ci_gen (by omega)) rfl) ?_
      refine hq_F.st (s' := (90, _, _, _)) hg176_89 rfl rfl rfl (hs_al (hg_nr g0 (by decide))) ?_
      refine hq_F.st (s' := (91, _, _, _)) hg176_90 rfl rfl rfl rfl ?_
      refine sy_pf hg176_91 hC2 sh_61 sk_11_152 (lo := 0) (hi := 4) rfl (by decide) rfl rfl rfl (fun w29 hC29 hw29 => ?_)
      refine hq_F.en hg176_94 rfl rfl ?_
      refine ⟨rfl, hC29, (((wpF hw1).cov (by decide)).tr (((wpF hw2).cov (by decide)).tr ((wpF hw29).cov (by decide)))), ?_, ?_⟩
      · intro h
        exact absurd h (by omega)
      · intro _
        refine ⟨by rw [wpv hw29, if_neg (by decide), wpv hw2, if_neg (by decide), wpv hw1, if_pos ⟨rfl, rfl⟩]; exact hp, ?_, ?_, ?_⟩
        · intro _
          rw [wpv hw29, if_pos ⟨rfl, rfl⟩]
          decide
        · intro h
          rw [if_pos h] at hv81
          omega
        · intro h
          rw [if_pos h] at hv81
          omega
  · skip
    refine hq_F.st (s' := (55, _, _, _)) hg176_52 rfl rfl rfl (hs_icn (t := 80) (ci_len (by omega)) rfl) ?_
    refine hq_F.st (s' := (56, _, _, _)) hg176_55 rfl rfl rfl (hs_al g0) ?_
    refine hq_F.st (s' := (59, _, _, _)) hg176_56 rfl rfl rfl (hq_gf hC2 sh_61 sk_11_21 (sy_v hC2 (by decide) rfl)) ?_
    have q56 : (gv w2 61 4).toInt = (gv w 61 4).toInt := by rw [wpv hw2, if_neg (by decide), wpv hw1, if_neg (by decide)]
    refine hq_F.st (s' := (60, _, _, _)) hg176_59 rfl rfl rfl (hs_al g0) ?_
    refine hq_F.st (s' := (63, _, _, _)) hg176_60 rfl rfl rfl (hq_gf hC2 sh_61 sk_11_24 (sy_v hC2 (by decide) rfl)) ?_
    have q60 : (gv w2 61 5).toInt = (gv w 61 5).toInt := by rw [wpv hw2, if_neg (by decide), wpv hw1, if_neg (by decide)]
    by_cases b63 : ((gv w2 61 4)).toInt < ((gv w2 61 5)).toInt
    · skip
      refine hq_F.st (s' := (80, _, _, _)) hg176_63 rfl rfl rfl (hs_ic (ci_lt (by omega)) rfl) ?_
      refine hq_F.st (s' := (81, _, _, _)) hg176_80 rfl rfl rfl (hs_al g0) ?_
      refine hq_F.call hg176_81 rfl rfl si_11_142 (by decide) (by decide) sz_173 (sy_argsV hC2 sh_61 rfl rfl rfl (Nat.le_of_ble_eq_true rfl) rfl (Nat.le_of_ble_eq_true rfl) rfl (by decide)) (tm_pk hC2 (hP.fr (((wpF hw1).cov (M := [(61, 4, 19)]) (by decide)).tr ((wpF hw2).cov (M := [(61, 4, 19)]) (by decide))) (by decide) (by decide)) (p := s) (by rw [wpv hw2, if_neg (by decide), wpv hw1, if_neg (by decide)]; exact hp)) (fun _ _ q => by rw [q.1]) ?_
      rintro r81 w2 ⟨rfl, v81, rfl, hv81⟩
      try dsimp only
      refine hq_F.st (s' := (85, _, _, _)) hg176_84 rfl rfl rfl rfl ?_
      refine hq_F.st (s' := (86, _, _, _)) hg176_85 rfl rfl rfl (hs_iln (pi_get_set _ _ _)) ?_
      by_cases b86 : 0 ≤ (v81).toInt
      · skip
        refine hq_F.st (s' := (95, _, _, _)) hg176_86 rfl rfl rfl (hs_if (ci_ge (by omega)) rfl) ?_
        refine hq_F.st (s' := (96, _, _, _)) hg176_95 rfl rfl rfl (hs_iln (pi_get_set _ _ _)) ?_
        refine hq_F.call hg176_96 rfl rfl si_11_155 (by decide) (by decide) sz_174 (sy_argsS rfl rfl rfl (Nat.le_of_ble_eq_true rfl) (by decide) rfl (Nat.le_of_ble_eq_true rfl) (by decide)) (tm_174 (x := v81)) (fun _ _ q => by rw [q.1]) ?_
        rintro r96 w2 ⟨rfl, rfl⟩
        try dsimp only
        by_cases l96 : 97 ≤ (v81).toInt ∧ (v81).toInt ≤ 122
        · rw [if_pos l96]
          refine hq_F.st (s' := (164, _, _, _)) hg176_99 rfl rfl rfl (hs_if (ci_ne (by omega)) rfl) ?_
          refine hq_F.st (s' := (165, _, _, _)) hg176_164 rfl rfl rfl (hs_iln (pi_get_set _ _ _)) ?_
          refine hq_F.call hg176_165 rfl rfl si_11_155 (by decide) (by decide) sz_174 (sy_argsS rfl rfl rfl (Nat.le_of_ble_eq_true rfl) (by decide) rfl (Nat.le_of_ble_eq_true rfl) (by decide)) (tm_174 (x := v81)) (fun _ _ q => by rw [q.1]) ?_
          rintro r165 w2 ⟨rfl, rfl⟩
          try dsimp only
          by_cases l165 : 97 ≤ (v81).toInt ∧ (v81).toInt ≤ 122
          · rw [if_pos l165]
            refine hq_F.st (s' := (169, _, _, _)) hg176_168 rfl rfl rfl rfl ?_
            refine hq_F.st (s' := (170, _, _, _)) hg176_169 rfl rfl rfl rfl ?_
            refine hq_F.st (s' := (171, _, _, _)) hg176_170 rfl rfl rfl rfl ?_
            refine hq_F.st (s' := (172, _, _, _)) hg176_171 rfl rfl rfl (hs_al (hg_nr (hg_nr (hg_nr g0 (by decide)) (by decide)) (by decide))) ?_
            refine hq_F.st (s' := (173, _, _, _)) hg176_172 rfl rfl rfl rfl ?_
            refine sy_pl hg176_173 hC2 sh_61 sk_11_165 rfl rfl rfl rfl (fun w30 hC30 hw30 => ?_)
            refine hq_F.st (s' := (177, _, _, _)) hg176_176 rfl rfl rfl (hs_al (hg_nr (hg_nr (hg_nr g0 (by decide)) (by decide)) (by decide))) ?_
            refine hq_F.st (s' := (178, _, _, _)) hg176_177 rfl rfl rfl rfl ?_
            refine sy_pf hg176_178 hC30 sh_61 sk_11_162 (lo := -2147483648) (hi := 2147483647) rfl (af_i32 _) rfl rfl rfl (fun w31 hC31 hw31 => ?_)
            have hlt : s < B := by
              by_cases h : s < B
              · exact h
              · rw [if_neg h] at hv81
                omega
            have hv9 := hv81
            rw [if_pos hlt] at hv9
            have hsm : tq_sm (tp s) = true := tq_smt (by omega)
            have hld : tq_ld (tp s) = true := tq_ldt (by omega)
            refine tm_run (d := d) (sl := true) (B - s + 1) s 0 true (by omega) (by omega) (by omega) hC31 (hP.fr (((wpF hw1).cov (M := [(61, 4, 19)]) (by decide)).tr (((wpF hw2).cov (M := [(61, 4, 19)]) (by decide)).tr (((wpF hw30).cov (M := [(61, 4, 19)]) (by decide)).tr ((wpF hw31).cov (M := [(61, 4, 19)]) (by decide))))) (by decide) (by decide)) (by rw [wpv hw31, if_neg (by decide), wplv hw30, if_neg (by decide), wpv hw2, if_neg (by decide), wpv hw1, if_neg (by decide)]; exact hp) (by rw [wpv hw31, if_neg (by decide), wplv hw30, if_neg (by decide), wpv hw2, if_pos ⟨rfl, rfl⟩]; decide) (hg_nr (hg_nr (hg_nr g0 (by decide)) (by decide)) (by decide)) (hg_ne (pi_get_set _ _ _) (by decide)) (pi_get_set _ _ _) ?_
            intro w9 lv9 k1 k2 k3 k4 k5 k6 k7 k8 k9
            rw [Nat.zero_add] at k4
            refine (tm_T k1 k4 k7 k8 k9).imp (fun r w8 q => ?_)
            obtain ⟨q1, q2, q3, q4⟩ := q
            refine ⟨q1, q2, (((wpF hw1).cov (by decide)).tr (((wpF hw2).cov (by decide)).tr (((wpF hw30).cov (by decide)).tr ((wpF hw31).cov (by decide))))).tr ((k2.cov (by decide)).tr (q3.cov (by decide))), ?_, ?_⟩
            · intro h
              exact absurd h (by omega)
            · intro _
              refine ⟨by rw [gv_eq (q3 61 12 (by decide)), gv_eq (k2 61 12 (by decide)), wpv hw31, if_neg (by decide), wplv hw30, if_neg (by decide), wpv hw2, if_neg (by decide), wpv hw1, if_pos ⟨rfl, rfl⟩]; exact hp, fun h => absurd h (by omega), fun _ _ => ?_, fun _ h => by rw [hld] at h; cases h⟩
              rw [hsm]
              refine ⟨by rw [gv_eq (q3 61 4 (by decide))]; exact k3, by rw [q4, Bool.true_and], ?_, ?_⟩
              · rw [gl_eq (q3 61 17 (by decide)), k5, wpvl hw31, if_neg (by decide), wpl hw30, if_pos ⟨rfl, rfl⟩]
                rfl
              · rw [gv_eq (q3 61 14 (by decide)), k6, wpv hw31, if_pos ⟨rfl, rfl⟩]
                rfl
          · rw [if_neg l165]
            refine hq_F.st (s' := (169, _, _, _)) hg176_168 rfl rfl rfl rfl ?_
            refine hq_F.st (s' := (170, _, _, _)) hg176_169 rfl rfl rfl rfl ?_
            refine hq_F.st (s' := (171, _, _, _)) hg176_170 rfl rfl rfl rfl ?_
            refine hq_F.st (s' := (172, _, _, _)) hg176_171 rfl rfl rfl (hs_al (hg_nr (hg_nr (hg_nr g0 (by decide)) (by decide)) (by decide))) ?_
            refine hq_F.st (s' := (173, _, _, _)) hg176_172 rfl rfl rfl rfl ?_
            refine sy_pl hg176_173 hC2 sh_61 sk_11_165 rfl rfl rfl rfl (fun w32 hC32 hw32 => ?_)
            refine hq_F.st (s' := (177, _, _, _)) hg176_176 rfl rfl rfl (hs_al (hg_nr (hg_nr (hg_nr g0 (by decide)) (by decide)) (by decide))) ?_
            refine hq_F.st (s' := (178, _, _, _)) hg176_177 rfl rfl rfl rfl ?_
            refine sy_pf hg176_178 hC32 sh_61 sk_11_162 (lo := -2147483648) (hi := 2147483647) rfl (af_i32 _) rfl rfl rfl (fun w33 hC33 hw33 => ?_)
            have hlt : s < B := by
              by_cases h : s < B
              · exact h
              · rw [if_neg h] at hv81
                omega
            have hv9 := hv81
            rw [if_pos hlt] at hv9
            have hsm : tq_sm (tp s) = false := tq_smf (by omega)
            have hld : tq_ld (tp s) = true := tq_ldt (by omega)
            refine tm_run (d := d) (sl := false) (B - s + 1) s 0 true (by omega) (by omega) (by omega) hC33 (hP.fr (((wpF hw1).cov (M := [(61, 4, 19)]) (by decide)).tr (((wpF hw2).cov (M := [(61, 4, 19)]) (by decide)).tr (((wpF hw32).cov (M := [(61, 4, 19)]) (by decide)).tr ((wpF hw33).cov (M := [(61, 4, 19)]) (by decide))))) (by decide) (by decide)) (by rw [wpv hw33, if_neg (by decide), wplv hw32, if_neg (by decide), wpv hw2, if_neg (by decide), wpv hw1, if_neg (by decide)]; exact hp) (by rw [wpv hw33, if_neg (by decide), wplv hw32, if_neg (by decide), wpv hw2, if_pos ⟨rfl, rfl⟩]; decide) (hg_nr (hg_nr (hg_nr g0 (by decide)) (by decide)) (by decide)) (hg_ne (pi_get_set _ _ _) (by decide)) (pi_get_set _ _ _) ?_
            intro w9 lv9 k1 k2 k3 k4 k5 k6 k7 k8 k9
            rw [Nat.zero_add] at k4
            refine (tm_T k1 k4 k7 k8 k9).imp (fun r w8 q => ?_)
            obtain ⟨q1, q2, q3, q4⟩ := q
            refine ⟨q1, q2, (((wpF hw1).cov (by decide)).tr (((wpF hw2).cov (by decide)).tr (((wpF hw32).cov (by decide)).tr ((wpF hw33).cov (by decide))))).tr ((k2.cov (by decide)).tr (q3.cov (by decide))), ?_, ?_⟩
            · intro h
              exact absurd h (by omega)
            · intro _
              refine ⟨by rw [gv_eq (q3 61 12 (by decide)), gv_eq (k2 61 12 (by decide)), wpv hw33, if_neg (by decide), wplv hw32, if_neg (by decide), wpv hw2, if_neg (by decide), wpv hw1, if_pos ⟨rfl, rfl⟩]; exact hp, fun h => absurd h (by omega), fun _ _ => ?_, fun _ h => by rw [hld] at h; cases h⟩
              rw [hsm]
              refine ⟨by rw [gv_eq (q3 61 4 (by decide))]; exact k3, by rw [q4, Bool.true_and], ?_, ?_⟩
              · rw [gl_eq (q3 61 17 (by decide)), k5, wpvl hw33, if_neg (by decide), wpl hw32, if_pos ⟨rfl, rfl⟩]
                rfl
              · rw [gv_eq (q3 61 14 (by decide)), k6, wpv hw33, if_pos ⟨rfl, rfl⟩]
                rfl
        · rw [if_neg l96]
          refine hq_F.st (s' := (102, _, _, _)) hg176_99 rfl rfl rfl (hs_ifn (t := 164) (ci_nen (by omega)) rfl) ?_
          refine hq_F.st (s' := (103, _, _, _)) hg176_102 rfl rfl rfl (hs_iln (pi_get_set _ _ _)) ?_
          refine hq_F.call hg176_103 rfl rfl si_11_159 (by decide) (by decide) sz_175 (sy_argsS rfl rfl rfl (Nat.le_of_ble_eq_true rfl) (by decide) rfl (Nat.le_of_ble_eq_true rfl) (by decide)) (tm_175 (x := v81)) (fun _ _ q => by rw [q.1]) ?_
          rintro r103 w2 ⟨rfl, rfl⟩
          try dsimp only
          by_cases d103 : 48 ≤ (v81).toInt ∧ (v81).toInt ≤ 57
          · rw [if_pos d103]
            refine hq_F.st (s' := (164, _, _, _)) hg176_106 rfl rfl rfl (hs_if (ci_ne (by omega)) rfl) ?_
            refine hq_F.st (s' := (165, _, _, _)) hg176_164 rfl rfl rfl (hs_iln (pi_get_set _ _ _)) ?_
            refine hq_F.call hg176_165 rfl rfl si_11_155 (by decide) (by decide) sz_174 (sy_argsS rfl rfl rfl (Nat.le_of_ble_eq_true rfl) (by decide) rfl (Nat.le_of_ble_eq_true rfl) (by decide)) (tm_174 (x := v81)) (fun _ _ q => by rw [q.1]) ?_
            rintro r165 w2 ⟨rfl, rfl⟩
            try dsimp only
            by_cases l165 : 97 ≤ (v81).toInt ∧ (v81).toInt ≤ 122
            · rw [if_pos l165]
              refine hq_F.st (s' := (169, _, _, _)) hg176_168 rfl rfl rfl rfl ?_
              refine hq_F.st (s' := (170, _, _, _)) hg176_169 rfl rfl rfl rfl ?_
              refine hq_F.st (s' := (171, _, _, _)) hg176_170 rfl rfl rfl rfl ?_
              refine hq_F.st (s' := (172, _, _, _)) hg176_171 rfl rfl rfl (hs_al (hg_nr (hg_nr (hg_nr g0 (by decide)) (by decide)) (by decide))) ?_
              refine hq_F.st (s' := (173, _, _, _)) hg176_172 rfl rfl rfl rfl ?_
              refine sy_pl hg176_173 hC2 sh_61 sk_11_165 rfl rfl rfl rfl (fun w34 hC34 hw34 => ?_)
              refine hq_F.st (s' := (177, _, _, _)) hg176_176 rfl rfl rfl (hs_al (hg_nr (hg_nr (hg_nr g0 (by decide)) (by decide)) (by decide))) ?_
              refine hq_F.st (s' := (178, _, _, _)) hg176_177 rfl rfl rfl rfl ?_
              refine sy_pf hg176_178 hC34 sh_61 sk_11_162 (lo := -2147483648) (hi := 2147483647) rfl (af_i32 _) rfl rfl rfl (fun w35 hC35 hw35 => ?_)
              have hlt : s < B := by
                by_cases h : s < B
                · exact h
                · rw [if_neg h] at hv81
                  omega
              have hv9 := hv81
              rw [if_pos hlt] at hv9
              have hsm : tq_sm (tp s) = true := tq_smt (by omega)
              have hld : tq_ld (tp s) = true := tq_ldt (by omega)
              refine tm_run (d := d) (sl := true) (B - s + 1) s 0 true (by omega) (by omega) (by omega) hC35 (hP.fr (((wpF hw1).cov (M := [(61, 4, 19)]) (by decide)).tr (((wpF hw2).cov (M := [(61, 4, 19)]) (by decide)).tr (((wpF hw34).cov (M := [(61, 4, 19)]) (by decide)).tr ((wpF hw35).cov (M := [(61, 4, 19)]) (by decide))))) (by decide) (by decide)) (by rw [wpv hw35, if_neg (by decide), wplv hw34, if_neg (by decide), wpv hw2, if_neg (by decide), wpv hw1, if_neg (by decide)]; exact hp) (by rw [wpv hw35, if_neg (by decide), wplv hw34, if_neg (by decide), wpv hw2, if_pos ⟨rfl, rfl⟩]; decide) (hg_nr (hg_nr (hg_nr g0 (by decide)) (by decide)) (by decide)) (hg_ne (pi_get_set _ _ _) (by decide)) (pi_get_set _ _ _) ?_
              intro w9 lv9 k1 k2 k3 k4 k5 k6 k7 k8 k9
              rw [Nat.zero_add] at k4
              refine (tm_T k1 k4 k7 k8 k9).imp (fun r w8 q => ?_)
              obtain ⟨q1, q2, q3, q4⟩ := q
              refine ⟨q1, q2, (((wpF hw1).cov (by decide)).tr (((wpF hw2).cov (by decide)).tr (((wpF hw34).cov (by decide)).tr ((wpF hw35).cov (by decide))))).tr ((k2.cov (by decide)).tr (q3.cov (by decide))), ?_, ?_⟩
              · intro h
                exact absurd h (by omega)
              · intro _
                refine ⟨by rw [gv_eq (q3 61 12 (by decide)), gv_eq (k2 61 12 (by decide)), wpv hw35, if_neg (by decide), wplv hw34, if_neg (by decide), wpv hw2, if_neg (by decide), wpv hw1, if_pos ⟨rfl, rfl⟩]; exact hp, fun h => absurd h (by omega), fun _ _ => ?_, fun _ h => by rw [hld] at h; cases h⟩
                rw [hsm]
                refine ⟨by rw [gv_eq (q3 61 4 (by decide))]; exact k3, by rw [q4, Bool.true_and], ?_, ?_⟩
                · rw [gl_eq (q3 61 17 (by decide)), k5, wpvl hw35, if_neg (by decide), wpl hw34, if_pos ⟨rfl, rfl⟩]
                  rfl
                · rw [gv_eq (q3 61 14 (by decide)), k6, wpv hw35, if_pos ⟨rfl, rfl⟩]
                  rfl
            · rw [if_neg l165]
              refine hq_F.st (s' := (169, _, _, _)) hg176_168 rfl rfl rfl rfl ?_
              refine hq_F.st (s' := (170, _, _, _)) hg176_169 rfl rfl rfl rfl ?_
              refine hq_F.st (s' := (171, _, _, _)) hg176_170 rfl rfl rfl rfl ?_
              refine hq_F.st (s' := (172, _, _, _)) hg176_171 rfl rfl rfl (hs_al (hg_nr (hg_nr (hg_nr g0 (by decide)) (by decide)) (by decide))) ?_
              refine hq_F.st (s' := (173, _, _, _)) hg176_172 rfl rfl rfl rfl ?_
              refine sy_pl hg176_173 hC2 sh_61 sk_11_165 rfl rfl rfl rfl (fun w36 hC36 hw36 => ?_)
              refine hq_F.st (s' := (177, _, _, _)) hg176_176 rfl rfl rfl (hs_al (hg_nr (hg_nr (hg_nr g0 (by decide)) (by decide)) (by decide))) ?_
              refine hq_F.st (s' := (178, _, _, _)) hg176_177 rfl rfl rfl rfl ?_
              refine sy_pf hg176_178 hC36 sh_61 sk_11_162 (lo := -2147483648) (hi := 2147483647) rfl (af_i32 _) rfl rfl rfl (fun w37 hC37 hw37 => ?_)
              have hlt : s < B := by
                by_cases h : s < B
                · exact h
                · rw [if_neg h] at hv81
                  omega
              have hv9 := hv81
              rw [if_pos hlt] at hv9
              have hsm : tq_sm (tp s) = false := tq_smf (by omega)
              have hld : tq_ld (tp s) = true := tq_ldt (by omega)
              refine tm_run (d := d) (sl := false) (B - s + 1) s 0 true (by omega) (by omega) (by omega) hC37 (hP.fr (((wpF hw1).cov (M := [(61, 4, 19)]) (by decide)).tr (((wpF hw2).cov (M := [(61, 4, 19)]) (by decide)).tr (((wpF hw36).cov (M := [(61, 4, 19)]) (by decide)).tr ((wpF hw37).cov (M := [(61, 4, 19)]) (by decide))))) (by decide) (by decide)) (by rw [wpv hw37, if_neg (by decide), wplv hw36, if_neg (by decide), wpv hw2, if_neg (by decide), wpv hw1, if_neg (by decide)]; exact hp) (by rw [wpv hw37, if_neg (by decide), wplv hw36, if_neg (by decide), wpv hw2, if_pos ⟨rfl, rfl⟩]; decide) (hg_nr (hg_nr (hg_nr g0 (by decide)) (by decide)) (by decide)) (hg_ne (pi_get_set _ _ _) (by decide)) (pi_get_set _ _ _) ?_
              intro w9 lv9 k1 k2 k3 k4 k5 k6 k7 k8 k9
              rw [Nat.zero_add] at k4
              refine (tm_T k1 k4 k7 k8 k9).imp (fun r w8 q => ?_)
              obtain ⟨q1, q2, q3, q4⟩ := q
              refine ⟨q1, q2, (((wpF hw1).cov (by decide)).tr (((wpF hw2).cov (by decide)).tr (((wpF hw36).cov (by decide)).tr ((wpF hw37).cov (by decide))))).tr ((k2.cov (by decide)).tr (q3.cov (by decide))), ?_, ?_⟩
              · intro h
                exact absurd h (by omega)
              · intro _
                refine ⟨by rw [gv_eq (q3 61 12 (by decide)), gv_eq (k2 61 12 (by decide)), wpv hw37, if_neg (by decide), wplv hw36, if_neg (by decide), wpv hw2, if_neg (by decide), wpv hw1, if_pos ⟨rfl, rfl⟩]; exact hp, fun h => absurd h (by omega), fun _ _ => ?_, fun _ h => by rw [hld] at h; cases h⟩
                rw [hsm]
                refine ⟨by rw [gv_eq (q3 61 4 (by decide))]; exact k3, by rw [q4, Bool.true_and], ?_, ?_⟩
                · rw [gl_eq (q3 61 17 (by decide)), k5, wpvl hw37, if_neg (by decide), wpl hw36, if_pos ⟨rfl, rfl⟩]
                  rfl
                · rw [gv_eq (q3 61 14 (by decide)), k6, wpv hw37, if_pos ⟨rfl, rfl⟩]
                  rfl
          · rw [if_neg d103]
            refine hq_F.st (s' := (109, _, _, _)) hg176_106 rfl rfl rfl (hs_ifn (t := 164) (ci_nen (by omega)) rfl) ?_
            refine hq_F.st (s' := (110, _, _, _)) hg176_109 rfl rfl rfl (hs_al (hg_nr g0 (by decide))) ?_
            refine hq_F.st (s' := (111, _, _, _)) hg176_110 rfl rfl rfl (hs_iln (pi_get_set _ _ _)) ?_
            refine hq_F.st (s' := (113, _, _, _)) hg176_111 rfl rfl rfl rfl ?_
            by_cases b113 : (v81).toInt = 59
            · skip
              refine hq_F.st (s' := (140, _, _, _)) hg176_113 rfl rfl rfl (hs_ic (ci_eq (by omega)) rfl) ?_
              refine hq_F.st (s' := (141, _, _, _)) hg176_140 rfl rfl rfl rfl ?_
              refine hq_F.st (s' := (145, _, _, _)) hg176_141 rfl rfl rfl rfl ?_
              refine sy_pf hg176_145 hC2 sh_61 sk_11_152 (lo := 0) (hi := 4) rfl (by decide) rfl rfl rfl (fun w38 hC38 hw38 => ?_)
              refine hq_F.st (s' := (149, _, _, _)) hg176_148 rfl rfl rfl (hs_al (hg_nr g0 (by decide))) ?_
              refine hq_F.st (s' := (150, _, _, _)) hg176_149 rfl rfl rfl (hs_iln (pi_get_set _ _ _)) ?_
              refine sy_pf hg176_150 hC38 sh_61 sk_11_162 (lo := -2147483648) (hi := 2147483647) rfl (af_i32 _) rfl rfl rfl (fun w39 hC39 hw39 => ?_)
              have hlt : s < B := by
                by_cases h : s < B
                · exact h
                · rw [if_neg h] at hv81
                  omega
              have hp3 : (gv w39 61 4).toInt = (s : Int) := by rw [wpv hw39, if_neg (by decide), wpv hw38, if_neg (by decide), wpv hw2, if_neg (by decide), wpv hw1, if_neg (by decide)]; exact hp
              have hin := sy_inc hp3 (by omega)
              refine hq_F.st (s' := (154, _, _, _)) hg176_153 rfl rfl rfl (hs_al (hg_nr g0 (by decide))) ?_
              refine hq_F.st (s' := (155, _, _, _)) hg176_154 rfl rfl rfl rfl ?_
              refine hq_F.st (s' := (158, _, _, _)) hg176_155 rfl rfl rfl (hq_gf hC39 sh_61 sk_11_21 (sy_v hC39 (by decide) rfl)) ?_
              have q155 : (gv w39 61 4).toInt = (gv w 61 4).toInt := by rw [wpv hw39, if_neg (by decide), wpv hw38, if_neg (by decide), wpv hw2, if_neg (by decide), wpv hw1, if_neg (by decide)]
              refine hq_F.st (s' := (159, _, _, _)) hg176_158 rfl rfl rfl rfl ?_
              refine hq_F.st (s' := (160, _, _, _)) hg176_159 rfl rfl rfl rfl ?_
              refine sy_pf hg176_160 hC39 sh_61 sk_11_21 (lo := 0) (hi := 940) rfl (by omega) rfl rfl rfl (fun w40 hC40 hw40 => ?_)
              refine hq_F.en hg176_163 rfl rfl ?_
              refine ⟨rfl, hC40, (((wpF hw1).cov (by decide)).tr (((wpF hw2).cov (by decide)).tr (((wpF hw38).cov (by decide)).tr (((wpF hw39).cov (by decide)).tr ((wpF hw40).cov (by decide)))))), ?_, ?_⟩
              · intro h
                exact absurd h (by omega)
              · intro _
                refine ⟨by rw [wpv hw40, if_neg (by decide), wpv hw39, if_neg (by decide), wpv hw38, if_neg (by decide), wpv hw2, if_neg (by decide), wpv hw1, if_pos ⟨rfl, rfl⟩]; exact hp, ?_, ?_, ?_⟩
                · intro h
                  rw [if_neg (by omega)] at hv81
                  omega
                · intro h1 h2
                  rw [if_pos h1] at hv81
                  rw [tq_ldf (by omega) (by omega)] at h2
                  cases h2
                · intro h1 _
                  rw [if_pos h1] at hv81
                  refine ⟨?_, ?_, ?_⟩
                  · rw [wpv hw40, if_pos ⟨rfl, rfl⟩]
                    exact hin
                  · rw [wpv hw40, if_neg (by decide), wpv hw39, if_pos ⟨rfl, rfl⟩]
                    exact hv81
                  · rw [wpv hw40, if_neg (by decide), wpv hw39, if_neg (by decide), wpv hw38, if_pos ⟨rfl, rfl⟩, if_pos (by simp only [tq_sg, Bool.or_eq_true, decide_eq_true_eq]; omega)]
                    decide
            · skip
              refine hq_F.st (s' := (116, _, _, _)) hg176_113 rfl rfl rfl (hs_icn (t := 140) (ci_eqn (by omega)) rfl) ?_
              refine hq_F.st (s' := (117, _, _, _)) hg176_116 rfl rfl rfl (hs_iln (pi_get_set _ _ _)) ?_
              refine hq_F.st (s' := (119, _, _, _)) hg176_117 rfl rfl rfl rfl ?_
              by_cases b119 : (v81).toInt = 40
              · skip
                refine hq_F.st (s' := (140, _, _, _)) hg176_119 rfl rfl rfl (hs_ic (ci_eq (by omega)) rfl) ?_
                refine hq_F.st (s' := (141, _, _, _)) hg176_140 rfl rfl rfl rfl ?_
                refine hq_F.st (s' := (145, _, _, _)) hg176_141 rfl rfl rfl rfl ?_
                refine sy_pf hg176_145 hC2 sh_61 sk_11_152 (lo := 0) (hi := 4) rfl (by decide) rfl rfl rfl (fun w41 hC41 hw41 => ?_)
                refine hq_F.st (s' := (149, _, _, _)) hg176_148 rfl rfl rfl (hs_al (hg_nr g0 (by decide))) ?_
                refine hq_F.st (s' := (150, _, _, _)) hg176_149 rfl rfl rfl (hs_iln (pi_get_set _ _ _)) ?_
                refine sy_pf hg176_150 hC41 sh_61 sk_11_162 (lo := -2147483648) (hi := 2147483647) rfl (af_i32 _) rfl rfl rfl (fun w42 hC42 hw42 => ?_)
                have hlt : s < B := by
                  by_cases h : s < B
                  · exact h
                  · rw [if_neg h] at hv81
                    omega
                have hp3 : (gv w42 61 4).toInt = (s : Int) := by rw [wpv hw42, if_neg (by decide), wpv hw41, if_neg (by decide), wpv hw2, if_neg (by decide), wpv hw1, if_neg (by decide)]; exact hp
                have hin := sy_inc hp3 (by omega)
                refine hq_F.st (s' := (154, _, _, _)) hg176_153 rfl rfl rfl (hs_al (hg_nr g0 (by decide))) ?_
                refine hq_F.st (s' := (155, _, _, _)) hg176_154 rfl rfl rfl rfl ?_
                refine hq_F.st (s' := (158, _, _, _)) hg176_155 rfl rfl rfl (hq_gf hC42 sh_61 sk_11_21 (sy_v hC42 (by decide) rfl)) ?_
                have q155 : (gv w42 61 4).toInt = (gv w 61 4).toInt := by rw [wpv hw42, if_neg (by decide), wpv hw41, if_neg (by decide), wpv hw2, if_neg (by decide), wpv hw1, if_neg (by decide)]
                refine hq_F.st (s' := (159, _, _, _)) hg176_158 rfl rfl rfl rfl ?_
                refine hq_F.st (s' := (160, _, _, _)) hg176_159 rfl rfl rfl rfl ?_
                refine sy_pf hg176_160 hC42 sh_61 sk_11_21 (lo := 0) (hi := 940) rfl (by omega) rfl rfl rfl (fun w43 hC43 hw43 => ?_)
                refine hq_F.en hg176_163 rfl rfl ?_
                refine ⟨rfl, hC43, (((wpF hw1).cov (by decide)).tr (((wpF hw2).cov (by decide)).tr (((wpF hw41).cov (by decide)).tr (((wpF hw42).cov (by decide)).tr ((wpF hw43).cov (by decide)))))), ?_, ?_⟩
                · intro h
                  exact absurd h (by omega)
                · intro _
                  refine ⟨by rw [wpv hw43, if_neg (by decide), wpv hw42, if_neg (by decide), wpv hw41, if_neg (by decide), wpv hw2, if_neg (by decide), wpv hw1, if_pos ⟨rfl, rfl⟩]; exact hp, ?_, ?_, ?_⟩
                  · intro h
                    rw [if_neg (by omega)] at hv81
                    omega
                  · intro h1 h2
                    rw [if_pos h1] at hv81
                    rw [tq_ldf (by omega) (by omega)] at h2
                    cases h2
                  · intro h1 _
                    rw [if_pos h1] at hv81
                    refine ⟨?_, ?_, ?_⟩
                    · rw [wpv hw43, if_pos ⟨rfl, rfl⟩]
                      exact hin
                    · rw [wpv hw43, if_neg (by decide), wpv hw42, if_pos ⟨rfl, rfl⟩]
                      exact hv81
                    · rw [wpv hw43, if_neg (by decide), wpv hw42, if_neg (by decide), wpv hw41, if_pos ⟨rfl, rfl⟩, if_pos (by simp only [tq_sg, Bool.or_eq_true, decide_eq_true_eq]; omega)]
                      decide
              · skip
                refine hq_F.st (s' := (122, _, _, _)) hg176_119 rfl rfl rfl (hs_icn (t := 140) (ci_eqn (by omega)) rfl) ?_
                refine hq_F.st (s' := (123, _, _, _)) hg176_122 rfl rfl rfl (hs_iln (pi_get_set _ _ _)) ?_
                refine hq_F.st (s' := (125, _, _, _)) hg176_123 rfl rfl rfl rfl ?_
                by_cases b125 : (v81).toInt = 41
                · skip
                  refine hq_F.st (s' := (140, _, _, _)) hg176_125 rfl rfl rfl (hs_ic (ci_eq (by omega)) rfl) ?_
                  refine hq_F.st (s' := (141, _, _, _)) hg176_140 rfl rfl rfl rfl ?_
                  refine hq_F.st (s' := (145, _, _, _)) hg176_141 rfl rfl rfl rfl ?_
                  refine sy_pf hg176_145 hC2 sh_61 sk_11_152 (lo := 0) (hi := 4) rfl (by decide) rfl rfl rfl (fun w44 hC44 hw44 => ?_)
                  refine hq_F.st (s' := (149, _, _, _)) hg176_148 rfl rfl rfl (hs_al (hg_nr g0 (by decide))) ?_
                  refine hq_F.st (s' := (150, _, _, _)) hg176_149 rfl rfl rfl (hs_iln (pi_get_set _ _ _)) ?_
                  refine sy_pf hg176_150 hC44 sh_61 sk_11_162 (lo := -2147483648) (hi := 2147483647) rfl (af_i32 _) rfl rfl rfl (fun w45 hC45 hw45 => ?_)
                  have hlt : s < B := by
                    by_cases h : s < B
                    · exact h
                    · rw [if_neg h] at hv81
                      omega
                  have hp3 : (gv w45 61 4).toInt = (s : Int) := by rw [wpv hw45, if_neg (by decide), wpv hw44, if_neg (by decide), wpv hw2, if_neg (by decide), wpv hw1, if_neg (by decide)]; exact hp
                  have hin := sy_inc hp3 (by omega)
                  refine hq_F.st (s' := (154, _, _, _)) hg176_153 rfl rfl rfl (hs_al (hg_nr g0 (by decide))) ?_
                  refine hq_F.st (s' := (155, _, _, _)) hg176_154 rfl rfl rfl rfl ?_
                  refine hq_F.st (s' := (158, _, _, _)) hg176_155 rfl rfl rfl (hq_gf hC45 sh_61 sk_11_21 (sy_v hC45 (by decide) rfl)) ?_
                  have q155 : (gv w45 61 4).toInt = (gv w 61 4).toInt := by rw [wpv hw45, if_neg (by decide), wpv hw44, if_neg (by decide), wpv hw2, if_neg (by decide), wpv hw1, if_neg (by decide)]
                  refine hq_F.st (s' := (159, _, _, _)) hg176_158 rfl rfl rfl rfl ?_
                  refine hq_F.st (s' := (160, _, _, _)) hg176_159 rfl rfl rfl rfl ?_
                  refine sy_pf hg176_160 hC45 sh_61 sk_11_21 (lo := 0) (hi := 940) rfl (by omega) rfl rfl rfl (fun w46 hC46 hw46 => ?_)
                  refine hq_F.en hg176_163 rfl rfl ?_
                  refine ⟨rfl, hC46, (((wpF hw1).cov (by decide)).tr (((wpF hw2).cov (by decide)).tr (((wpF hw44).cov (by decide)).tr (((wpF hw45).cov (by decide)).tr ((wpF hw46).cov (by decide)))))), ?_, ?_⟩
                  · intro h
                    exact absurd h (by omega)
                  · intro _
                    refine ⟨by rw [wpv hw46, if_neg (by decide), wpv hw45, if_neg (by decide), wpv hw44, if_neg (by decide), wpv hw2, if_neg (by decide), wpv hw1, if_pos ⟨rfl, rfl⟩]; exact hp, ?_, ?_, ?_⟩
                    · intro h
                      rw [if_neg (by omega)] at hv81
                      omega
                    · intro h1 h2
                      rw [if_pos h1] at hv81
                      rw [tq_ldf (by omega) (by omega)] at h2
                      cases h2
                    · intro h1 _
                      rw [if_pos h1] at hv81
                      refine ⟨?_, ?_, ?_⟩
                      · rw [wpv hw46, if_pos ⟨rfl, rfl⟩]
                        exact hin
                      · rw [wpv hw46, if_neg (by decide), wpv hw45, if_pos ⟨rfl, rfl⟩]
                        exact hv81
                      · rw [wpv hw46, if_neg (by decide), wpv hw45, if_neg (by decide), wpv hw44, if_pos ⟨rfl, rfl⟩, if_pos (by simp only [tq_sg, Bool.or_eq_true, decide_eq_true_eq]; omega)]
                        decide
                · skip
                  refine hq_F.st (s' := (128, _, _, _)) hg176_125 rfl rfl rfl (hs_icn (t := 140) (ci_eqn (by omega)) rfl) ?_
                  refine hq_F.st (s' := (129, _, _, _)) hg176_128 rfl rfl rfl (hs_iln (pi_get_set _ _ _)) ?_
                  refine hq_F.st (s' := (131, _, _, _)) hg176_129 rfl rfl rfl rfl ?_
                  by_cases b131 : (v81).toInt < 60
                  · skip
                    refine hq_F.st (s' := (144, _, _, _)) hg176_131 rfl rfl rfl (hs_ic (ci_lt (by omega)) rfl) ?_
                    refine hq_F.st (s' := (145, _, _, _)) hg176_144 rfl rfl rfl rfl ?_
                    refine sy_pf hg176_145 hC2 sh_61 sk_11_152 (lo := 0) (hi := 4) rfl (by decide) rfl rfl rfl (fun w47 hC47 hw47 => ?_)
                    refine hq_F.st (s' := (149, _, _, _)) hg176_148 rfl rfl rfl (hs_al (hg_nr g0 (by decide))) ?_
                    refine hq_F.st (s' := (150, _, _, _)) hg176_149 rfl rfl rfl (hs_iln (pi_get_set _ _ _)) ?_
                    refine sy_pf hg176_150 hC47 sh_61 sk_11_162 (lo := -2147483648) (hi := 2147483647) rfl (af_i32 _) rfl rfl rfl (fun w48 hC48 hw48 => ?_)
                    have hlt : s < B := by
                      by_cases h : s < B
                      · exact h
                      · rw [if_neg h] at hv81
                        omega
                    have hp3 : (gv w48 61 4).toInt = (s : Int) := by rw [wpv hw48, if_neg (by decide), wpv hw47, if_neg (by decide), wpv hw2, if_neg (by decide), wpv hw1, if_neg (by decide)]; exact hp
                    have hin := sy_inc hp3 (by omega)
                    refine hq_F.st (s' := (154, _, _, _)) hg176_153 rfl rfl rfl (hs_al (hg_nr g0 (by decide))) ?_
                    refine hq_F.st (s' := (155, _, _, _)) hg176_154 rfl rfl rfl rfl ?_
                    refine hq_F.st (s' := (158, _, _, _)) hg176_155 rfl rfl rfl (hq_gf hC48 sh_61 sk_11_21 (sy_v hC48 (by decide) rfl)) ?_
                    have q155 : (gv w48 61 4).toInt = (gv w 61 4).toInt := by rw [wpv hw48, if_neg (by decide), wpv hw47, if_neg (by decide), wpv hw2, if_neg (by decide), wpv hw1, if_neg (by decide)]
                    refine hq_F.st (s' := (159, _, _, _)) hg176_158 rfl rfl rfl rfl ?_
                    refine hq_F.st (s' := (160, _, _, _)) hg176_159 rfl rfl rfl rfl ?_
                    refine sy_pf hg176_160 hC48 sh_61 sk_11_21 (lo := 0) (hi := 940) rfl (by omega) rfl rfl rfl (fun w49 hC49 hw49 => ?_)
                    refine hq_F.en hg176_163 rfl rfl ?_
                    refine ⟨rfl, hC49, (((wpF hw1).cov (by decide)).tr (((wpF hw2).cov (by decide)).tr (((wpF hw47).cov (by decide)).tr (((wpF hw48).cov (by decide)).tr ((wpF hw49).cov (by decide)))))), ?_, ?_⟩
                    · intro h
                      exact absurd h (by omega)
                    · intro _
                      refine ⟨by rw [wpv hw49, if_neg (by decide), wpv hw48, if_neg (by decide), wpv hw47, if_neg (by decide), wpv hw2, if_neg (by decide), wpv hw1, if_pos ⟨rfl, rfl⟩]; exact hp, ?_, ?_, ?_⟩
                      · intro h
                        rw [if_neg (by omega)] at hv81
                        omega
                      · intro h1 h2
                        rw [if_pos h1] at hv81
                        rw [tq_ldf (by omega) (by omega)] at h2
                        cases h2
                      · intro h1 _
                        rw [if_pos h1] at hv81
                        refine ⟨?_, ?_, ?_⟩
                        · rw [wpv hw49, if_pos ⟨rfl, rfl⟩]
                          exact hin
                        · rw [wpv hw49, if_neg (by decide), wpv hw48, if_pos ⟨rfl, rfl⟩]
                          exact hv81
                        · rw [wpv hw49, if_neg (by decide), wpv hw48, if_neg (by decide), wpv hw47, if_pos ⟨rfl, rfl⟩, if_neg (by simp only [tq_sg, Bool.or_eq_true, decide_eq_true_eq]; omega)]
                          decide
                  · skip
                    refine hq_F.st (s' := (134, _, _, _)) hg176_131 rfl rfl rfl (hs_icn (t := 144) (ci_ltn (by omega)) rfl) ?_
                    refine hq_F.st (s' := (135, _, _, _)) hg176_134 rfl rfl rfl (hs_iln (pi_get_set _ _ _)) ?_
                    refine hq_F.st (s' := (137, _, _, _)) hg176_135 rfl rfl rfl rfl ?_
                    by_cases b137 : 62 < (v81).toInt
                    · skip
                      refine hq_F.st (s' := (144, _, _, _)) hg176_137 rfl rfl rfl (hs_ic (ci_gt (by omega)) rfl) ?_
                      refine hq_F.st (s' := (145, _, _, _)) hg176_144 rfl rfl rfl rfl ?_
                      refine sy_pf hg176_145 hC2 sh_61 sk_11_152 (lo := 0) (hi := 4) rfl (by decide) rfl rfl rfl (fun w50 hC50 hw50 => ?_)
                      refine hq_F.st (s' := (149, _, _, _)) hg176_148 rfl rfl rfl (hs_al (hg_nr g0 (by decide))) ?_
                      refine hq_F.st (s' := (150, _, _, _)) hg176_149 rfl rfl rfl (hs_iln (pi_get_set _ _ _)) ?_
                      refine sy_pf hg176_150 hC50 sh_61 sk_11_162 (lo := -2147483648) (hi := 2147483647) rfl (af_i32 _) rfl rfl rfl (fun w51 hC51 hw51 => ?_)
                      have hlt : s < B := by
                        by_cases h : s < B
                        · exact h
                        · rw [if_neg h] at hv81
                          omega
                      have hp3 : (gv w51 61 4).toInt = (s : Int) := by rw [wpv hw51, if_neg (by decide), wpv hw50, if_neg (by decide), wpv hw2, if_neg (by decide), wpv hw1, if_neg (by decide)]; exact hp
                      have hin := sy_inc hp3 (by omega)
                      refine hq_F.st (s' := (154, _, _, _)) hg176_153 rfl rfl rfl (hs_al (hg_nr g0 (by decide))) ?_
                      refine hq_F.st (s' := (155, _, _, _)) hg176_154 rfl rfl rfl rfl ?_
                      refine hq_F.st (s' := (158, _, _, _)) hg176_155 rfl rfl rfl (hq_gf hC51 sh_61 sk_11_21 (sy_v hC51 (by decide) rfl)) ?_
                      have q155 : (gv w51 61 4).toInt = (gv w 61 4).toInt := by rw [wpv hw51, if_neg (by decide), wpv hw50, if_neg (by decide), wpv hw2, if_neg (by decide), wpv hw1, if_neg (by decide)]
                      refine hq_F.st (s' := (159, _, _, _)) hg176_158 rfl rfl rfl rfl ?_
                      refine hq_F.st (s' := (160, _, _, _)) hg176_159 rfl rfl rfl rfl ?_
                      refine sy_pf hg176_160 hC51 sh_61 sk_11_21 (lo := 0) (hi := 940) rfl (by omega) rfl rfl rfl (fun w52 hC52 hw52 => ?_)
                      refine hq_F.en hg176_163 rfl rfl ?_
                      refine ⟨rfl, hC52, (((wpF hw1).cov (by decide)).tr (((wpF hw2).cov (by decide)).tr (((wpF hw50).cov (by decide)).tr (((wpF hw51).cov (by decide)).tr ((wpF hw52).cov (by decide)))))), ?_, ?_⟩
                      · intro h
                        exact absurd h (by omega)
                      · intro _
                        refine ⟨by rw [wpv hw52, if_neg (by decide), wpv hw51, if_neg (by decide), wpv hw50, if_neg (by decide), wpv hw2, if_neg (by decide), wpv hw1, if_pos ⟨rfl, rfl⟩]; exact hp, ?_, ?_, ?_⟩
                        · intro h
                          rw [if_neg (by omega)] at hv81
                          omega
                        · intro h1 h2
                          rw [if_pos h1] at hv81
                          rw [tq_ldf (by omega) (by omega)] at h2
                          cases h2
                        · intro h1 _
                          rw [if_pos h1] at hv81
                          refine ⟨?_, ?_, ?_⟩
                          · rw [wpv hw52, if_pos ⟨rfl, rfl⟩]
                            exact hin
                          · rw [wpv hw52, if_neg (by decide), wpv hw51, if_pos ⟨rfl, rfl⟩]
                            exact hv81
                          · rw [wpv hw52, if_neg (by decide), wpv hw51, if_neg (by decide), wpv hw50, if_pos ⟨rfl, rfl⟩, if_neg (by simp only [tq_sg, Bool.or_eq_true, decide_eq_true_eq]; omega)]
                            decide
                    · skip
                      refine hq_F.st (s' := (140, _, _, _)) hg176_137 rfl rfl rfl (hs_icn (t := 144) (ci_gtn (by omega)) rfl) ?_
                      refine hq_F.st (s' := (141, _, _, _)) hg176_140 rfl rfl rfl rfl ?_
                      refine hq_F.st (s' := (145, _, _, _)) hg176_141 rfl rfl rfl rfl ?_
                      refine sy_pf hg176_145 hC2 sh_61 sk_11_152 (lo := 0) (hi := 4) rfl (by decide) rfl rfl rfl (fun w53 hC53 hw53 => ?_)
                      refine hq_F.st (s' := (149, _, _, _)) hg176_148 rfl rfl rfl (hs_al (hg_nr g0 (by decide))) ?_
                      refine hq_F.st (s' := (150, _, _, _)) hg176_149 rfl rfl rfl (hs_iln (pi_get_set _ _ _)) ?_
                      refine sy_pf hg176_150 hC53 sh_61 sk_11_162 (lo := -2147483648) (hi := 2147483647) rfl (af_i32 _) rfl rfl rfl (fun w54 hC54 hw54 => ?_)
                      have hlt : s < B := by
                        by_cases h : s < B
                        · exact h
                        · rw [if_neg h] at hv81
                          omega
                      have hp3 : (gv w54 61 4).toInt = (s : Int) := by rw [wpv hw54, if_neg (by decide), wpv hw53, if_neg (by decide), wpv hw2, if_neg (by decide), wpv hw1, if_neg (by decide)]; exact hp
                      have hin := sy_inc hp3 (by omega)
                      refine hq_F.st (s' := (154, _, _, _)) hg176_153 rfl rfl rfl (hs_al (hg_nr g0 (by decide))) ?_
                      refine hq_F.st (s' := (155, _, _, _)) hg176_154 rfl rfl rfl rfl ?_
                      refine hq_F.st (s' := (158, _, _, _)) hg176_155 rfl rfl rfl (hq_gf hC54 sh_61 sk_11_21 (sy_v hC54 (by decide) rfl)) ?_
                      have q155 : (gv w54 61 4).toInt = (gv w 61 4).toInt := by rw [wpv hw54, if_neg (by decide), wpv hw53, if_neg (by decide), wpv hw2, if_neg (by decide), wpv hw1, if_neg (by decide)]
                      refine hq_F.st (s' := (159, _, _, _)) hg176_158 rfl rfl rfl rfl ?_
                      refine hq_F.st (s' := (160, _, _, _)) hg176_159 rfl rfl rfl rfl ?_
                      refine sy_pf hg176_160 hC54 sh_61 sk_11_21 (lo := 0) (hi := 940) rfl (by omega) rfl rfl rfl (fun w55 hC55 hw55 => ?_)
                      refine hq_F.en hg176_163 rfl rfl ?_
                      refine ⟨rfl, hC55, (((wpF hw1).cov (by decide)).tr (((wpF hw2).cov (by decide)).tr (((wpF hw53).cov (by decide)).tr (((wpF hw54).cov (by decide)).tr ((wpF hw55).cov (by decide)))))), ?_, ?_⟩
                      · intro h
                        exact absurd h (by omega)
                      · intro _
                        refine ⟨by rw [wpv hw55, if_neg (by decide), wpv hw54, if_neg (by decide), wpv hw53, if_neg (by decide), wpv hw2, if_neg (by decide), wpv hw1, if_pos ⟨rfl, rfl⟩]; exact hp, ?_, ?_, ?_⟩
                        · intro h
                          rw [if_neg (by omega)] at hv81
                          omega
                        · intro h1 h2
                          rw [if_pos h1] at hv81
                          rw [tq_ldf (by omega) (by omega)] at h2
                          cases h2
                        · intro h1 _
                          rw [if_pos h1] at hv81
                          refine ⟨?_, ?_, ?_⟩
                          · rw [wpv hw55, if_pos ⟨rfl, rfl⟩]
                            exact hin
                          · rw [wpv hw55, if_neg (by decide), wpv hw54, if_pos ⟨rfl, rfl⟩]
                            exact hv81
                          · rw [wpv hw55, if_neg (by decide), wpv hw54, if_neg (by decide), wpv hw53, if_pos ⟨rfl, rfl⟩, if_pos (by simp only [tq_sg, Bool.or_eq_true, decide_eq_true_eq]; omega)]
                            decide
      · skip
        refine hq_F.st (s' := (89, _, _, _)) hg176_86 rfl rfl rfl (hs_ifn (t := 95) (ci_gen (by omega)) rfl) ?_
        refine hq_F.st (s' := (90, _, _, _)) hg176_89 rfl rfl rfl (hs_al (hg_nr g0 (by decide))) ?_
        refine hq_F.st (s' := (91, _, _, _)) hg176_90 rfl rfl rfl rfl ?_
        refine sy_pf hg176_91 hC2 sh_61 sk_11_152 (lo := 0) (hi := 4) rfl (by decide) rfl rfl rfl (fun w56 hC56 hw56 => ?_)
        refine hq_F.en hg176_94 rfl rfl ?_
        refine ⟨rfl, hC56, (((wpF hw1).cov (by decide)).tr (((wpF hw2).cov (by decide)).tr ((wpF hw56).cov (by decide)))), ?_, ?_⟩
        · intro h
          exact absurd h (by omega)
        · intro _
          refine ⟨by rw [wpv hw56, if_neg (by decide), wpv hw2, if_neg (by decide), wpv hw1, if_pos ⟨rfl, rfl⟩]; exact hp, ?_, ?_, ?_⟩
          · intro _
            rw [wpv hw56, if_pos ⟨rfl, rfl⟩]
            decide
          · intro h
            rw [if_pos h] at hv81
            omega
          · intro h
            rw [if_pos h] at hv81
            omega
    · skip
      refine hq_F.st (s' := (66, _, _, _)) hg176_63 rfl rfl rfl (hs_icn (t := 80) (ci_ltn (by omega)) rfl) ?_
      refine hq_F.st (s' := (67, _, _, _)) hg176_66 rfl rfl rfl (hs_al g0) ?_
      refine hq_F.st (s' := (68, _, _, _)) hg176_67 rfl rfl rfl (hs_al g0) ?_
      refine hq_F.st (s' := (71, _, _, _)) hg176_68 rfl rfl rfl (hq_gf hC2 sh_61 sk_11_24 (sy_v hC2 (by decide) rfl)) ?_
      have q68 : (gv w2 61 5).toInt = (gv w 61 5).toInt := by rw [wpv hw2, if_neg (by decide), wpv hw1, if_neg (by decide)]
      refine sy_pf hg176_71 hC2 sh_61 sk_11_146 (lo := 0) (hi := 940) rfl (by omega) rfl rfl rfl (fun w57 hC57 hw57 => ?_)
      refine hq_F.st (s' := (75, _, _, _)) hg176_74 rfl rfl rfl (hs_al g0) ?_
      refine hq_F.st (s' := (76, _, _, _)) hg176_75 rfl rfl rfl rfl ?_
      refine sy_pf hg176_76 hC57 sh_61 sk_11_152 (lo := 0) (hi := 4) rfl (by decide) rfl rfl rfl (fun w58 hC58 hw58 => ?_)
      refine hq_F.en hg176_79 rfl rfl ?_
      refine ⟨rfl, hC58, (((wpF hw1).cov (by decide)).tr (((wpF hw2).cov (by decide)).tr (((wpF hw57).cov (by decide)).tr ((wpF hw58).cov (by decide))))), ?_, ?_⟩
      · intro _
        refine ⟨by rw [wpv hw58, if_pos ⟨rfl, rfl⟩]; decide, ?_⟩
        rw [wpv hw58, if_neg (by decide), wpv hw57, if_pos ⟨rfl, rfl⟩]
        omega
      · intro h
        exact absurd (by omega) h
/-- skip: the next TOKEN from i on -/
theorem tm_176 {d B M i : Nat} {tp : Nat → Nat} {w : pi_W} (hC : af_Conf aw_Sh w) (hP : tm_P tp B w) (hM : (gv w 61 5).toInt = (M : Int)) (hp : (gv w 61 4).toInt = (i : Int)) (hi : i ≤ B) : hq_F (d + 1) sm176 (fun r w' => r = none ∧ af_Conf aw_Sh w' ∧ af_Fr [(61, 4, 5), (61, 11, 15), (61, 17, 18)] w w' ∧ tm_A tp B M (tq_sk tp B i) w') (0, lv_args 0 [.ref 61], [], w) := by
  refine tm_skip (d := d) (B - i + 1) i (by omega) hi hC hP hp rfl (fun w1 lv1 k1 k2 k3 k4 => ?_)
  refine (tm_176b (d := d) k1 (hP.fr k2 (by decide) (by decide)) (by rw [gv_eq (k2 61 5 (by decide))]; exact hM) k3 (tq_sk_le hi).2 k4).imp (fun r w2 q => ?_)
  exact ⟨q.1, q.2.1, (k2.cov (by decide)).tr q.2.2.1, q.2.2.2⟩
