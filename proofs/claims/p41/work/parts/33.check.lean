/-! the checks; by program -/
def ag_226 : af_G := ((4, 5, none, mc_49), aw_Sh, [ak_207, ak_224, ak_225, ak_101, ak_218], 1, ak_226.2.2.2.1, ak_226.2.2.2.2, [(11, (3, [(0, .inr (.inl 13)), (1, .inl (0, [0])), (2, .inl (0, [1])), (3, .inl (0, [2]))], [], [], ([(1, 0, 2147483646), (2, 0, 2147483647), (0, (-2147483648), 2147483647)], [], [])), [(3, 0, (0, [])), (2147483647, 1, (0, [2])), (0, 0, (0, [])), (1000, 0, (0, [])), (0, 0, (0, [])), (0, 0, (0, []))]),
  (47, (4, [(0, .inr (.inl 13)), (1, .inl (0, [0])), (2, .inl (0, [1])), (3, .inl (0, [2])), (4, .inl (0, [3]))], [], [], ([(1, 0, 2147483646), (2, 0, 2147483646), (3, 0, 2147483646), (0, 1, 2147483647)], [], [])), [(3, 0, (0, [])), (2147483647, 1, (0, [2])), (0, 0, (0, [])), (2, 0, (0, [])), (2147483647, 1, (0, [3])), (0, 0, (0, []))]),
  (75, (4, [(0, .inr (.inl 13)), (1, .inl (0, [0])), (2, .inl (0, [1])), (3, .inl (0, [2])), (4, .inl (0, [3]))], [], [], ([(1, 0, 2147483646), (2, 0, 2147483646), (3, 0, 2147483646), (0, 1, 2147483647)], [], [])), [(3, 0, (0, [])), (2147483647, 1, (0, [2])), (0, 0, (0, [])), (1, 0, (0, [])), (2147483647, 1, (0, [3])), (0, 0, (0, []))])], [], [])
set_option maxRecDepth 1000000 in
theorem ac_226 : af_meth 25 ag_226 ak_226.2.2.1 = true := by decide +kernel
def ag_227 : af_G := ((10, 2, (some .int), mc_151), aw_Sh, [ak_101], 0, ak_227.2.2.2.1, ak_227.2.2.2.2, [], [], [])
set_option maxRecDepth 1000000 in
theorem ac_227 : af_meth 17 ag_227 ak_227.2.2.1 = true := by decide +kernel
def ag_228 : af_G := ((10, 5, (some .int), mc_157), aw_Sh, [ak_205, ak_217, ak_223, ak_226, ak_210, ak_201, ak_227], 2, ak_228.2.2.2.1, ak_228.2.2.2.2, [(13, (3, [(0, .inr (.inl 0)), (1, .inl (0, [0])), (2, .inl (0, [1])), (3, .inl (0, [2]))], [], [], ([(2, 0, 10), (0, (-2147483648), 2147483647), (1, (-2147483648), 2147483647)], [], [])), [(2, 0, (0, [])), (2147483647, 1, (0, [2])), (0, 0, (0, []))]),
  (76, (4, [(0, .inr (.inl 0)), (1, .inl (0, [0])), (2, .inl (0, [1])), (3, .inl (0, [2])), (4, .inl (0, [3]))], [], [], ([(2, (-2147483648), 2147483647), (3, 0, 6), (0, (-2147483648), 2147483647), (1, (-2147483648), 2147483647)], [], [])), [(1, 0, (0, [])), (2147483647, 1, (0, [3])), (0, 0, (0, []))])], [], [])
set_option maxRecDepth 1000000 in
theorem ac_228 : af_meth 33 ag_228 ak_228.2.2.1 = true := by decide +kernel
def ag_229 : af_G := ((10, 8, (some .int), mc_137), aw_Sh, [ak_201, ak_117, ak_228, ak_138], 2, ak_229.2.2.2.1, ak_229.2.2.2.2, [(41, (6, [(0, .inr (.inl 0)), (1, .inl (0, [0])), (2, .inl (0, [1])), (3, .inl (0, [2])), (4, .inl (0, [3])), (5, .inl (0, [4])), (6, .inl (0, [5]))], [], [], ([(2, 1, 10), (3, (-1), 2147483646), (4, (-2147483648), 2147483647), (5, 1, 2147483647), (0, 0, 2147483646), (1, 1, 3)], [], [])), [(1, 0, (0, [])), (2147483647, 1, (0, [5])), (0, 0, (0, []))])], [], [])
set_option maxRecDepth 1000000 in
theorem ac_229 : af_meth 34 ag_229 ak_229.2.2.1 = true := by decide +kernel
def ag_230 : af_G := ((10, 1, (some .int), mc_138), aw_Sh, [], 0, ak_230.2.2.2.1, ak_230.2.2.2.2, [], [], [])
set_option maxRecDepth 1000000 in
theorem ac_230 : af_meth 9 ag_230 ak_230.2.2.1 = true := by decide +kernel
def ag_231 : af_G := ((10, 2, (some .int), mc_151), aw_Sh, [ak_123], 0, ak_231.2.2.2.1, ak_231.2.2.2.2, [], [], [])
set_option maxRecDepth 1000000 in
theorem ac_231 : af_meth 17 ag_231 ak_231.2.2.1 = true := by decide +kernel
def ag_232 : af_G := ((2, 4, (some .int), mc_18), aw_Sh, [ak_128, ak_143, ak_129, ak_144, ak_130, ak_145, ak_123], 1, ak_232.2.2.2.1, ak_232.2.2.2.2, [(4, (3, [(0, .inr (.inl 4)), (1, .inl (0, [0])), (2, .inl (0, [1])), (3, .inl (0, [2]))], [], [], ([(1, (-2147483648), 2147483647), (2, 0, 6), (0, (-2147483648), 2147483647)], [], [])), [(1, 0, (0, [])), (2147483647, 1, (0, [2])), (0, 0, (0, []))])], [], [])
set_option maxRecDepth 1000000 in
theorem ac_232 : af_meth 38 ag_232 ak_232.2.2.1 = true := by decide +kernel
def ag_233 : af_G := ((10, 5, (some .int), mc_139), aw_Sh, [ak_232, ak_231, ak_179], 1, ak_233.2.2.2.1, ak_233.2.2.2.2, [(26, (4, [(0, .inr (.inl 0)), (1, .inl (0, [0])), (2, .inl (0, [1])), (3, .inl (0, [2])), (4, .inl (0, [3]))], [], [], ([(1, (-2147483648), 2147483647), (2, (-2147483648), 2147483647), (3, 0, 2147483647), (0, 0, 2147483646)], [], [])), [(1, 0, (0, [])), (2147483647, 1, (0, [3])), (0, 0, (0, []))])], [], [])
set_option maxRecDepth 1000000 in
theorem ac_233 : af_meth 26 ag_233 ak_233.2.2.1 = true := by decide +kernel
def ag_234 : af_G := ((10, 1, (some .int), mc_140), aw_Sh, [], 0, ak_234.2.2.2.1, ak_234.2.2.2.2, [], [], [])
set_option maxRecDepth 1000000 in
theorem ac_234 : af_meth 9 ag_234 ak_234.2.2.1 = true := by decide +kernel
def ag_235 : af_G := ((10, 5, (some .int), mc_141), aw_Sh, [ak_205, ak_207, ak_226, ak_213, ak_168], 3, ak_235.2.2.2.1, ak_235.2.2.2.2, [(36, (4, [(0, .inr (.inl 0)), (1, .inl (0, [0])), (2, .inl (0, [1])), (3, .inl (0, [2])), (4, .inl (0, [3]))], [], [], ([(3, 0, 61), (0, 0, 2147483646), (1, 0, 2147483646), (2, 1, 60)], [], [])), [(1, 0, (0, [])), (2147483647, 1, (0, [3])), (0, 0, (0, []))])], [], [])
set_option maxRecDepth 1000000 in
theorem ac_235 : af_meth 28 ag_235 ak_235.2.2.1 = true := by decide +kernel
def ag_236 : af_G := ((10, 2, (some .int), mc_159), aw_Sh, [], 0, ak_236.2.2.2.1, ak_236.2.2.2.2, [], [], [])
set_option maxRecDepth 1000000 in
theorem ac_236 : af_meth 17 ag_236 ak_236.2.2.1 = true := by decide +kernel
def ag_237 : af_G := ((10, 2, (some .int), mc_159), aw_Sh, [], 1, ak_237.2.2.2.1, ak_237.2.2.2.2, [], [], [])
set_option maxRecDepth 1000000 in
theorem ac_237 : af_meth 17 ag_237 ak_237.2.2.1 = true := by decide +kernel
def ag_238 : af_G := ((10, 2, (some .int), mc_159), aw_Sh, [], 1, ak_238.2.2.2.1, ak_238.2.2.2.2, [], [], [])
set_option maxRecDepth 1000000 in
theorem ac_238 : af_meth 17 ag_238 ak_238.2.2.1 = true := by decide +kernel
def ag_239 : af_G := ((2, 6, (some .int), mc_19), aw_Sh, [ak_236, ak_237, ak_238, ak_101], 1, ak_239.2.2.2.1, ak_239.2.2.2.2, [(4, (3, [(0, .inr (.inl 4)), (1, .inl (0, [0])), (2, .inl (0, [1])), (3, .inl (0, [2]))], [], [], ([(1, (-2147483648), 2147483647), (2, 0, 2147483647), (0, (-2147483648), 2147483647)], [], [])), [(2, 0, (0, [])), (2147483647, 1, (0, [2])), (0, 0, (0, [])), (1000, 0, (0, [])), (0, 0, (0, [])), (0, 0, (0, []))]),
  (13, (4, [(0, .inr (.inl 4)), (1, .inl (0, [0])), (2, .inl (0, [1])), (3, .inl (0, [2])), (4, .inl (0, [3]))], [], [], ([(1, (-2147483648), 2147483647), (2, 0, 2147483646), (3, 0, 6), (0, (-2147483648), 2147483647)], [], [])), [(2, 0, (0, [])), (2147483647, 1, (0, [2])), (0, 0, (0, [])), (1, 0, (0, [])), (2147483647, 1, (0, [3])), (0, 0, (0, []))])], [], [])
set_option maxRecDepth 1000000 in
theorem ac_239 : af_meth 40 ag_239 ak_239.2.2.1 = true := by decide +kernel
def ag_240 : af_G := ((10, 2, (some .int), mc_142), aw_Sh, [ak_239, ak_117], 1, ak_240.2.2.2.1, ak_240.2.2.2.2, [], [], [])
set_option maxRecDepth 1000000 in
theorem ac_240 : af_meth 17 ag_240 ak_240.2.2.1 = true := by decide +kernel
def ag_241 : af_G := ((4, 2, (some .int), mc_54), aw_Sh, [], 1, ak_241.2.2.2.1, ak_241.2.2.2.2, [], [], [])
set_option maxRecDepth 1000000 in
theorem ac_241 : af_meth 24 ag_241 ak_241.2.2.1 = true := by decide +kernel
def ag_242 : af_G := ((4, 3, none, mc_53), aw_Sh, [ak_150, ak_154, ak_241, ak_97], 1, ak_242.2.2.2.1, ak_242.2.2.2.2, [], [], [])
set_option maxRecDepth 1000000 in
theorem ac_242 : af_meth 33 ag_242 ak_242.2.2.1 = true := by decide +kernel
def ag_243 : af_G := ((4, 5, none, mc_52), aw_Sh, [ak_132, ak_150, ak_154, ak_164, ak_242, ak_241, ak_101, ak_97], 2, ak_243.2.2.2.1, ak_243.2.2.2.2, [(7, (3, [(0, .inr (.inl 11)), (1, .inl (0, [0])), (2, .inl (0, [1])), (3, .inl (0, [2]))], [], [], ([(2, 0, 2147483647), (0, (-2147483648), 2147483647), (1, (-2147483648), 2147483647)], [], [])), [(2, 0, (0, [])), (2147483647, 1, (0, [2])), (0, 0, (0, [])), (1000, 0, (0, [])), (0, 0, (0, [])), (0, 0, (0, []))]),
  (68, (4, [(0, .inr (.inl 11)), (1, .inl (0, [0])), (2, .inl (0, [1])), (3, .inl (0, [2])), (4, .inl (0, [3]))], [], [], ([(2, 0, 2147483646), (3, 0, 6), (0, 1, 2147483647), (1, (-2147483648), 2147483647)], [], [])), [(2, 0, (0, [])), (2147483647, 1, (0, [2])), (0, 0, (0, [])), (1, 0, (0, [])), (2147483647, 1, (0, [3])), (0, 0, (0, []))])], [], [])
set_option maxRecDepth 1000000 in
theorem ac_243 : af_meth 37 ag_243 ak_243.2.2.1 = true := by decide +kernel
def ag_244 : af_G := ((10, 4, (some .int), mc_143), aw_Sh, [ak_132, ak_243, ak_151, ak_201], 2, ak_244.2.2.2.1, ak_244.2.2.2.2, [], [], [])
set_option maxRecDepth 1000000 in
theorem ac_244 : af_meth 39 ag_244 ak_244.2.2.1 = true := by decide +kernel
def ag_245 : af_G := ((4, 2, (some .int), mc_54), aw_Sh, [], 1, ak_245.2.2.2.1, ak_245.2.2.2.2, [], [], [])
set_option maxRecDepth 1000000 in
theorem ac_245 : af_meth 24 ag_245 ak_245.2.2.1 = true := by decide +kernel
def ag_246 : af_G := ((4, 3, none, mc_53), aw_Sh, [ak_217, ak_223, ak_245, ak_97], 1, ak_246.2.2.2.1, ak_246.2.2.2.2, [], [], [])
set_option maxRecDepth 1000000 in
theorem ac_246 : af_meth 33 ag_246 ak_246.2.2.1 = true := by decide +kernel
def ag_247 : af_G := ((4, 5, none, mc_52), aw_Sh, [ak_207, ak_217, ak_223, ak_226, ak_246, ak_245, ak_101, ak_97], 2, ak_247.2.2.2.1, ak_247.2.2.2.2, [(7, (3, [(0, .inr (.inl 13)), (1, .inl (0, [0])), (2, .inl (0, [1])), (3, .inl (0, [2]))], [], [], ([(2, 0, 2147483647), (0, (-2147483648), 2147483647), (1, (-2147483648), 2147483647)], [], [])), [(2, 0, (0, [])), (2147483647, 1, (0, [2])), (0, 0, (0, [])), (1000, 0, (0, [])), (0, 0, (0, [])), (0, 0, (0, []))]),
  (68, (4, [(0, .inr (.inl 13)), (1, .inl (0, [0])), (2, .inl (0, [1])), (3, .inl (0, [2])), (4, .inl (0, [3]))], [], [], ([(2, 0, 2147483646), (3, 0, 6), (0, 1, 2147483647), (1, (-2147483648), 2147483647)], [], [])), [(2, 0, (0, [])), (2147483647, 1, (0, [2])), (0, 0, (0, [])), (1, 0, (0, [])), (2147483647, 1, (0, [3])), (0, 0, (0, []))])], [], [])
set_option maxRecDepth 1000000 in
theorem ac_247 : af_meth 37 ag_247 ak_247.2.2.1 = true := by decide +kernel
def ag_248 : af_G := ((10, 6, (some .int), mc_144), aw_Sh, [ak_205, ak_247, ak_213, ak_117], 3, ak_248.2.2.2.1, ak_248.2.2.2.2, [(28, (5, [(0, .inr (.inl 0)), (1, .inl (0, [0])), (2, .inl (0, [1])), (3, .inl (0, [2])), (4, .inl (0, [3])), (5, .inl (0, [4]))], [], [], ([(3, (-2147483648), 2147483647), (4, 0, 30), (0, 0, 2147483646), (1, 1, 30), (2, (-2147483648), 2147483647)], [], [])), [(1, 0, (0, [])), (2147483647, 1, (0, [4])), (0, 0, (0, []))])], [], [])
set_option maxRecDepth 1000000 in
theorem ac_248 : af_meth 29 ag_248 ak_248.2.2.1 = true := by decide +kernel
def ag_249 : af_G := ((10, 2, (some .int), mc_159), aw_Sh, [], 1, ak_249.2.2.2.1, ak_249.2.2.2.2, [], [], [])
set_option maxRecDepth 1000000 in
theorem ac_249 : af_meth 17 ag_249 ak_249.2.2.1 = true := by decide +kernel
def ag_250 : af_G := ((10, 2, (some .int), mc_159), aw_Sh, [], 0, ak_250.2.2.2.1, ak_250.2.2.2.2, [], [], [])
set_option maxRecDepth 1000000 in
theorem ac_250 : af_meth 17 ag_250 ak_250.2.2.1 = true := by decide +kernel
def ag_251 : af_G := ((10, 2, (some .int), mc_159), aw_Sh, [], 1, ak_251.2.2.2.1, ak_251.2.2.2.2, [], [], [])
set_option maxRecDepth 1000000 in
theorem ac_251 : af_meth 17 ag_251 ak_251.2.2.1 = true := by decide +kernel
def ag_252 : af_G := ((10, 2, (some .int), mc_159), aw_Sh, [], 1, ak_252.2.2.2.1, ak_252.2.2.2.2, [], [], [])
set_option maxRecDepth 1000000 in
theorem ac_252 : af_meth 17 ag_252 ak_252.2.2.1 = true := by decide +kernel
def ag_253 : af_G := ((10, 2, (some .int), mc_159), aw_Sh, [], 1, ak_253.2.2.2.1, ak_253.2.2.2.2, [], [], [])
set_option maxRecDepth 1000000 in
theorem ac_253 : af_meth 17 ag_253 ak_253.2.2.1 = true := by decide +kernel
def ag_254 : af_G := ((10, 2, (some .int), mc_159), aw_Sh, [], 1, ak_254.2.2.2.1, ak_254.2.2.2.2, [], [], [])
set_option maxRecDepth 1000000 in
theorem ac_254 : af_meth 17 ag_254 ak_254.2.2.1 = true := by decide +kernel
def ag_255 : af_G := ((10, 2, (some .int), mc_159), aw_Sh, [], 1, ak_255.2.2.2.1, ak_255.2.2.2.2, [], [], [])
set_option maxRecDepth 1000000 in
theorem ac_255 : af_meth 17 ag_255 ak_255.2.2.1 = true := by decide +kernel
def ag_256 : af_G := ((2, 5, (some .int), mc_13), aw_Sh, [ak_250, ak_252, ak_253, ak_251, ak_254, ak_255, ak_249], 1, ak_256.2.2.2.1, ak_256.2.2.2.2, [(3, (2, [(0, .inr (.inl 4)), (1, .inr (.inr ())), (3, .inl (0, [0])), (4, .inl (0, [1]))], [], [], ([(1, 0, 27), (0, (-2147483648), 2147483647)], [], [])), [(1, 0, (0, [])), (2147483647, 1, (0, [1])), (0, 0, (0, []))])], [], [])
set_option maxRecDepth 1000000 in
theorem ac_256 : af_meth 39 ag_256 ak_256.2.2.1 = true := by decide +kernel
def ag_257 : af_G := ((9, 4, (some .int), mc_108), aw_Sh, [ak_256, ak_11, ak_12], 1, ak_257.2.2.2.1, ak_257.2.2.2.2, [], [], [])
set_option maxRecDepth 1000000 in
theorem ac_257 : af_meth 24 ag_257 ak_257.2.2.1 = true := by decide +kernel
def ag_258 : af_G := ((0, 1, (some .boolean), mc_4), aw_Sh, [ak_9, ak_11], 0, ak_258.2.2.2.1, ak_258.2.2.2.2, [], [], [])
set_option maxRecDepth 1000000 in
theorem ac_258 : af_meth 15 ag_258 ak_258.2.2.1 = true := by decide +kernel
def ag_259 : af_G := ((10, 3, none, mc_160), aw_Sh, [], 2, ak_259.2.2.2.1, ak_259.2.2.2.2, [], [], [])
set_option maxRecDepth 1000000 in
theorem ac_259 : af_meth 17 ag_259 ak_259.2.2.1 = true := by decide +kernel
def ag_260 : af_G := ((10, 3, none, mc_160), aw_Sh, [], 2, ak_260.2.2.2.1, ak_260.2.2.2.2, [], [], [])
set_option maxRecDepth 1000000 in
theorem ac_260 : af_meth 17 ag_260 ak_260.2.2.1 = true := by decide +kernel
def ag_261 : af_G := ((10, 3, none, mc_160), aw_Sh, [], 2, ak_261.2.2.2.1, ak_261.2.2.2.2, [], [], [])
set_option maxRecDepth 1000000 in
theorem ac_261 : af_meth 17 ag_261 ak_261.2.2.1 = true := by decide +kernel
def ag_262 : af_G := ((0, 4, (some .boolean), mc_5), aw_Sh, [ak_259, ak_260, ak_261], 3, ak_262.2.2.2.1, ak_262.2.2.2.2, [], [], [])
set_option maxRecDepth 1000000 in
theorem ac_262 : af_meth 38 ag_262 ak_262.2.2.1 = true := by decide +kernel
def ag_263 : af_G := ((9, 4, (some .int), mc_109), aw_Sh, [ak_9, ak_257], 1, ak_263.2.2.2.1, ak_263.2.2.2.2, [], [], [])
set_option maxRecDepth 1000000 in
theorem ac_263 : af_meth 18 ag_263 ak_263.2.2.1 = true := by decide +kernel
def ag_264 : af_G := ((0, 3, (some .boolean), mc_3), aw_Sh, [ak_258, ak_262, ak_9, ak_11, ak_257, ak_263], 0, ak_264.2.2.2.1, ak_264.2.2.2.2, [], [], [])
set_option maxRecDepth 1000000 in
theorem ac_264 : af_meth 39 ag_264 ak_264.2.2.1 = true := by decide +kernel
def ag_265 : af_G := ((0, 3, (some .boolean), mc_2), aw_Sh, [ak_264, ak_258, ak_262, ak_11, ak_46, ak_12, ak_263], 0, ak_265.2.2.2.1, ak_265.2.2.2.2, [], [], [])
set_option maxRecDepth 1000000 in
theorem ac_265 : af_meth 50 ag_265 ak_265.2.2.1 = true := by decide +kernel
def ag_266 : af_G := ((0, 2, (some .boolean), mc_1), aw_Sh, [ak_265, ak_10, ak_93], 0, ak_266.2.2.2.1, ak_266.2.2.2.2, [(17, (2, [(0, .inr (.inl 28)), (1, .inl (0, [0]))], [], [((1, 3), (400, [])), ((1, 5), (0, [1]))], ([(0, 0, 41), (1, 0, 4)], [], [])), [(1, 0, (0, [])), (2147483647, 1, (0, [0])), (0, 0, (0, []))])], [], [])
set_option maxRecDepth 1000000 in
theorem ac_266 : af_meth 23 ag_266 ak_266.2.2.1 = true := by decide +kernel
def ag_267 : af_G := ((10, 2, (some .int), mc_159), aw_Sh, [], 1, ak_267.2.2.2.1, ak_267.2.2.2.2, [], [], [])
set_option maxRecDepth 1000000 in
theorem ac_267 : af_meth 17 ag_267 ak_267.2.2.1 = true := by decide +kernel
def ag_268 : af_G := ((10, 2, (some .int), mc_159), aw_Sh, [], 1, ak_268.2.2.2.1, ak_268.2.2.2.2, [], [], [])
set_option maxRecDepth 1000000 in
theorem ac_268 : af_meth 17 ag_268 ak_268.2.2.1 = true := by decide +kernel
def ag_269 : af_G := ((10, 2, (some .int), mc_159), aw_Sh, [], 1, ak_269.2.2.2.1, ak_269.2.2.2.2, [], [], [])
set_option maxRecDepth 1000000 in
theorem ac_269 : af_meth 17 ag_269 ak_269.2.2.1 = true := by decide +kernel
def ag_270 : af_G := ((10, 3, none, mc_160), aw_Sh, [], 2, ak_270.2.2.2.1, ak_270.2.2.2.2, [], [], [])
set_option maxRecDepth 1000000 in
theorem ac_270 : af_meth 17 ag_270 ak_270.2.2.1 = true := by decide +kernel
def ag_271 : af_G := ((10, 8, (some .int), mc_158), aw_Sh, [ak_132, ak_150, ak_154, ak_164, ak_135, ak_267, ak_268, ak_269, ak_270], 0, ak_271.2.2.2.1, ak_271.2.2.2.2, [(7, (3, [(0, .inr (.inl 0)), (1, .inr (.inl 11)), (2, .inl (0, [0])), (3, .inl (0, [1])), (4, .inl (0, [2]))], [], [], ([(0, (-1), 2147483646), (1, (-2147483648), 2147483647), (2, 0, 2147483647)], [], [])), [(1, 0, (0, [])), (2147483647, 1, (0, [2])), (0, 0, (0, []))])], [], [])
set_option maxRecDepth 1000000 in
theorem ac_271 : af_meth 53 ag_271 ak_271.2.2.1 = true := by decide +kernel
def ag_272 : af_G := ((4, 3, (some .int), mc_62), aw_Sh, [ak_213, ak_101], 0, ak_272.2.2.2.1, ak_272.2.2.2.2, [(4, (2, [(0, .inr (.inl 13)), (1, .inl (0, [0])), (2, .inl (0, [1]))], [], [], ([(0, (-2147483648), 2147483647), (1, 0, 6)], [], [])), [(1, 0, (0, [])), (2147483647, 1, (0, [1])), (0, 0, (0, []))])], [], [])
set_option maxRecDepth 1000000 in
theorem ac_272 : af_meth 24 ag_272 ak_272.2.2.1 = true := by decide +kernel
def ag_273 : af_G := ((10, 8, (some .int), mc_158), aw_Sh, [ak_207, ak_217, ak_223, ak_226, ak_272, ak_267, ak_268, ak_269, ak_270], 0, ak_273.2.2.2.1, ak_273.2.2.2.2, [(7, (3, [(0, .inr (.inl 0)), (1, .inr (.inl 13)), (2, .inl (0, [0])), (3, .inl (0, [1])), (4, .inl (0, [2]))], [], [], ([(0, (-1), 2147483646), (1, (-2147483648), 2147483647), (2, 0, 2147483647)], [], [])), [(1, 0, (0, [])), (2147483647, 1, (0, [2])), (0, 0, (0, []))])], [], [])
set_option maxRecDepth 1000000 in
theorem ac_273 : af_meth 53 ag_273 ak_273.2.2.1 = true := by decide +kernel
def ag_274 : af_G := ((10, 3, (some .int), mc_145), aw_Sh, [ak_266, ak_205, ak_151, ak_271, ak_273], 1, ak_274.2.2.2.1, ak_274.2.2.2.2, [], [], [])
set_option maxRecDepth 1000000 in
theorem ac_274 : af_meth 35 ag_274 ak_274.2.2.1 = true := by decide +kernel
def ag_275 : af_G := ((10, 2, (some .int), mc_159), aw_Sh, [], 1, ak_275.2.2.2.1, ak_275.2.2.2.2, [], [], [])
set_option maxRecDepth 1000000 in
theorem ac_275 : af_meth 17 ag_275 ak_275.2.2.1 = true := by decide +kernel
def ag_276 : af_G := ((10, 2, (some .int), mc_146), aw_Sh, [ak_275], 1, ak_276.2.2.2.1, ak_276.2.2.2.2, [], [], [])
set_option maxRecDepth 1000000 in
theorem ac_276 : af_meth 22 ag_276 ak_276.2.2.1 = true := by decide +kernel
def ag_277 : af_G := ((7, 1, none, mc_80), aw_Sh, [], 0, ak_277.2.2.2.1, ak_277.2.2.2.2, [], [], [])
set_option maxRecDepth 1000000 in
theorem ac_277 : af_meth 10 ag_277 ak_277.2.2.1 = true := by decide +kernel
def ag_278 : af_G := ((8, 4, (some .boolean), mc_90), aw_Sh, [ak_11, ak_34], 0, ak_278.2.2.2.1, ak_278.2.2.2.2, [], [], [])
set_option maxRecDepth 1000000 in
theorem ac_278 : af_meth 32 ag_278 ak_278.2.2.1 = true := by decide +kernel
def ag_279 : af_G := ((8, 4, (some .boolean), mc_89), aw_Sh, [ak_278], 0, ak_279.2.2.2.1, ak_279.2.2.2.2, [(2, (0, [(0, .inr (.inl 27)), (1, .inl (9, [])), (2, .inl (0, []))], [], [], ([], [], [])), [(1, 0, (0, [])), (2147483647, 1, (9, [])), (0, 0, (0, []))])], [], [])
set_option maxRecDepth 1000000 in
theorem ac_279 : af_meth 15 ag_279 ak_279.2.2.1 = true := by decide +kernel
def ag_280 : af_G := ((10, 3, none, mc_160), aw_Sh, [], 2, ak_280.2.2.2.1, ak_280.2.2.2.2, [], [], [])
set_option maxRecDepth 1000000 in
theorem ac_280 : af_meth 17 ag_280 ak_280.2.2.1 = true := by decide +kernel
def ag_281 : af_G := ((10, 3, none, mc_160), aw_Sh, [], 2, ak_281.2.2.2.1, ak_281.2.2.2.2, [], [], [])
set_option maxRecDepth 1000000 in
theorem ac_281 : af_meth 17 ag_281 ak_281.2.2.1 = true := by decide +kernel
def ag_282 : af_G := ((10, 3, none, mc_160), aw_Sh, [], 2, ak_282.2.2.2.1, ak_282.2.2.2.2, [], [], [])
set_option maxRecDepth 1000000 in
theorem ac_282 : af_meth 17 ag_282 ak_282.2.2.1 = true := by decide +kernel
def ag_283 : af_G := ((7, 4, none, mc_82), aw_Sh, [ak_280, ak_281, ak_282], 3, ak_283.2.2.2.1, ak_283.2.2.2.2, [], [], [])
set_option maxRecDepth 1000000 in
theorem ac_283 : af_meth 31 ag_283 ak_283.2.2.1 = true := by decide +kernel
def ag_284 : af_G := ((8, 3, (some .boolean), mc_93), aw_Sh, [ak_283, ak_9, ak_11, ak_34], 1, ak_284.2.2.2.1, ak_284.2.2.2.2, [], [], [])
set_option maxRecDepth 1000000 in
theorem ac_284 : af_meth 46 ag_284 ak_284.2.2.1 = true := by decide +kernel
def ag_285 : af_G := ((8, 4, (some .boolean), mc_92), aw_Sh, [ak_283, ak_9, ak_257], 2, ak_285.2.2.2.1, ak_285.2.2.2.2, [], [], [])
set_option maxRecDepth 1000000 in
theorem ac_285 : af_meth 27 ag_285 ak_285.2.2.1 = true := by decide +kernel
def ag_286 : af_G := ((8, 2, (some .boolean), mc_91), aw_Sh, [ak_278], 0, ak_286.2.2.2.1, ak_286.2.2.2.2, [], [], [])
set_option maxRecDepth 1000000 in
theorem ac_286 : af_meth 14 ag_286 ak_286.2.2.1 = true := by decide +kernel
def ag_287 : af_G := ((8, 4, (some .boolean), mc_90), aw_Sh, [ak_283, ak_279, ak_286, ak_285, ak_284, ak_9, ak_11, ak_34], 0, ak_287.2.2.2.1, ak_287.2.2.2.2, [], [], [])
set_option maxRecDepth 1000000 in
theorem ac_287 : af_meth 48 ag_287 ak_287.2.2.1 = true := by decide +kernel
def ag_288 : af_G := ((8, 4, (some .boolean), mc_89), aw_Sh, [ak_283, ak_287, ak_9], 0, ak_288.2.2.2.1, ak_288.2.2.2.2, [(2, (1, [(0, .inr (.inl 27)), (1, .inl (8, [])), (2, .inl (0, [0]))], [], [], ([(0, 0, 2147483647)], [], [])), [(2, 0, (0, [])), (2147483647, 1, (0, [0])), (0, 0, (0, [])), (1000, 0, (0, [])), (0, 0, (0, [])), (0, 0, (0, []))]),
  (20, (4, [(0, .inr (.inl 27)), (1, .inl (8, [])), (2, .inl (0, [0])), (3, .inl (0, [1]))], [], [((1, 5), (0, [2])), ((27, 3), (0, [3]))], ([(0, 0, 2147483646), (1, 0, 20), (2, 0, 4), (3, (-2147483647), 20)], [], [])), [(2, 0, (0, [])), (2147483647, 1, (0, [0])), (0, 0, (0, [])), (1, 0, (0, [])), (2147483647, 1, (0, [1])), (0, 0, (0, []))])], [], [])
set_option maxRecDepth 1000000 in
theorem ac_288 : af_meth 32 ag_288 ak_288.2.2.1 = true := by decide +kernel
def ag_289 : af_G := ((8, 2, (some .boolean), mc_91), aw_Sh, [ak_283, ak_287], 0, ak_289.2.2.2.1, ak_289.2.2.2.2, [], [], [])
set_option maxRecDepth 1000000 in
theorem ac_289 : af_meth 20 ag_289 ak_289.2.2.1 = true := by decide +kernel
def ag_290 : af_G := ((8, 4, (some .boolean), mc_90), aw_Sh, [ak_283, ak_288, ak_289, ak_285, ak_284, ak_9, ak_11, ak_34, ak_93], 0, ak_290.2.2.2.1, ak_290.2.2.2.2, [], [], [])
set_option maxRecDepth 1000000 in
theorem ac_290 : af_meth 49 ag_290 ak_290.2.2.1 = true := by decide +kernel
def ag_291 : af_G := ((8, 4, (some .boolean), mc_89), aw_Sh, [ak_283, ak_290, ak_9], 0, ak_291.2.2.2.1, ak_291.2.2.2.2, [(2, (1, [(0, .inr (.inl 27)), (1, .inl (7, [])), (2, .inl (0, [0]))], [], [], ([(0, 0, 2147483647)], [], [])), [(2, 0, (0, [])), (2147483647, 1, (0, [0])), (0, 0, (0, [])), (1000, 0, (0, [])), (0, 0, (0, [])), (0, 0, (0, []))]),
  (20, (4, [(0, .inr (.inl 27)), (1, .inl (7, [])), (2, .inl (0, [0])), (3, .inl (0, [1]))], [], [((1, 5), (0, [2])), ((27, 3), (0, [3]))], ([(0, 0, 2147483646), (1, 0, 20), (2, 0, 4), (3, (-2147483647), 20)], [], [])), [(2, 0, (0, [])), (2147483647, 1, (0, [0])), (0, 0, (0, [])), (1, 0, (0, [])), (2147483647, 1, (0, [1])), (0, 0, (0, []))])], [], [])
set_option maxRecDepth 1000000 in
theorem ac_291 : af_meth 32 ag_291 ak_291.2.2.1 = true := by decide +kernel
def ag_292 : af_G := ((8, 2, (some .boolean), mc_91), aw_Sh, [ak_283, ak_290], 0, ak_292.2.2.2.1, ak_292.2.2.2.2, [], [], [])
set_option maxRecDepth 1000000 in
theorem ac_292 : af_meth 20 ag_292 ak_292.2.2.1 = true := by decide +kernel
def ag_293 : af_G := ((8, 4, (some .boolean), mc_90), aw_Sh, [ak_283, ak_291, ak_292, ak_285, ak_284, ak_9, ak_11, ak_34, ak_93], 0, ak_293.2.2.2.1, ak_293.2.2.2.2, [], [], [])
set_option maxRecDepth 1000000 in
theorem ac_293 : af_meth 49 ag_293 ak_293.2.2.1 = true := by decide +kernel
def ag_294 : af_G := ((8, 4, (some .boolean), mc_89), aw_Sh, [ak_283, ak_293, ak_9], 0, ak_294.2.2.2.1, ak_294.2.2.2.2, [(2, (1, [(0, .inr (.inl 27)), (1, .inl (6, [])), (2, .inl (0, [0]))], [], [], ([(0, 0, 2147483647)], [], [])), [(2, 0, (0, [])), (2147483647, 1, (0, [0])), (0, 0, (0, [])), (1000, 0, (0, [])), (0, 0, (0, [])), (0, 0, (0, []))]),
  (20, (4, [(0, .inr (.inl 27)), (1, .inl (6, [])), (2, .inl (0, [0])), (3, .inl (0, [1]))], [], [((1, 5), (0, [2])), ((27, 3), (0, [3]))], ([(0, 0, 2147483646), (1, 0, 20), (2, 0, 4), (3, (-2147483647), 20)], [], [])), [(2, 0, (0, [])), (2147483647, 1, (0, [0])), (0, 0, (0, [])), (1, 0, (0, [])), (2147483647, 1, (0, [1])), (0, 0, (0, []))])], [], [])
set_option maxRecDepth 1000000 in
theorem ac_294 : af_meth 32 ag_294 ak_294.2.2.1 = true := by decide +kernel
def ag_295 : af_G := ((8, 2, (some .boolean), mc_91), aw_Sh, [ak_283, ak_293], 0, ak_295.2.2.2.1, ak_295.2.2.2.2, [], [], [])
set_option maxRecDepth 1000000 in
theorem ac_295 : af_meth 20 ag_295 ak_295.2.2.1 = true := by decide +kernel
def ag_296 : af_G := ((8, 4, (some .boolean), mc_90), aw_Sh, [ak_283, ak_294, ak_295, ak_285, ak_284, ak_9, ak_11, ak_34, ak_93], 0, ak_296.2.2.2.1, ak_296.2.2.2.2, [], [], [])
set_option maxRecDepth 1000000 in
theorem ac_296 : af_meth 49 ag_296 ak_296.2.2.1 = true := by decide +kernel
def ag_297 : af_G := ((8, 4, (some .boolean), mc_89), aw_Sh, [ak_283, ak_296, ak_9], 0, ak_297.2.2.2.1, ak_297.2.2.2.2, [(2, (1, [(0, .inr (.inl 27)), (1, .inl (5, [])), (2, .inl (0, [0]))], [], [], ([(0, 0, 2147483647)], [], [])), [(2, 0, (0, [])), (2147483647, 1, (0, [0])), (0, 0, (0, [])), (1000, 0, (0, [])), (0, 0, (0, [])), (0, 0, (0, []))]),
  (20, (4, [(0, .inr (.inl 27)), (1, .inl (5, [])), (2, .inl (0, [0])), (3, .inl (0, [1]))], [], [((1, 5), (0, [2])), ((27, 3), (0, [3]))], ([(0, 0, 2147483646), (1, 0, 20), (2, 0, 4), (3, (-2147483647), 20)], [], [])), [(2, 0, (0, [])), (2147483647, 1, (0, [0])), (0, 0, (0, [])), (1, 0, (0, [])), (2147483647, 1, (0, [1])), (0, 0, (0, []))])], [], [])
set_option maxRecDepth 1000000 in
theorem ac_297 : af_meth 32 ag_297 ak_297.2.2.1 = true := by decide +kernel
def ag_298 : af_G := ((8, 2, (some .boolean), mc_91), aw_Sh, [ak_283, ak_296], 0, ak_298.2.2.2.1, ak_298.2.2.2.2, [], [], [])
set_option maxRecDepth 1000000 in
theorem ac_298 : af_meth 20 ag_298 ak_298.2.2.1 = true := by decide +kernel
def ag_299 : af_G := ((8, 4, (some .boolean), mc_90), aw_Sh, [ak_283, ak_297, ak_298, ak_285, ak_284, ak_9, ak_11, ak_34, ak_93], 0, ak_299.2.2.2.1, ak_299.2.2.2.2, [], [], [])
set_option maxRecDepth 1000000 in
theorem ac_299 : af_meth 49 ag_299 ak_299.2.2.1 = true := by decide +kernel
def ag_300 : af_G := ((8, 4, (some .boolean), mc_89), aw_Sh, [ak_283, ak_299, ak_9], 0, ak_300.2.2.2.1, ak_300.2.2.2.2, [(2, (1, [(0, .inr (.inl 27)), (1, .inl (4, [])), (2, .inl (0, [0]))], [], [], ([(0, 0, 2147483647)], [], [])), [(2, 0, (0, [])), (2147483647, 1, (0, [0])), (0, 0, (0, [])), (1000, 0, (0, [])), (0, 0, (0, [])), (0, 0, (0, []))]),
  (20, (4, [(0, .inr (.inl 27)), (1, .inl (4, [])), (2, .inl (0, [0])), (3, .inl (0, [1]))], [], [((1, 5), (0, [2])), ((27, 3), (0, [3]))], ([(0, 0, 2147483646), (1, 0, 20), (2, 0, 4), (3, (-2147483647), 20)], [], [])), [(2, 0, (0, [])), (2147483647, 1, (0, [0])), (0, 0, (0, [])), (1, 0, (0, [])), (2147483647, 1, (0, [1])), (0, 0, (0, []))])], [], [])
set_option maxRecDepth 1000000 in
theorem ac_300 : af_meth 32 ag_300 ak_300.2.2.1 = true := by decide +kernel
def ag_301 : af_G := ((8, 2, (some .boolean), mc_91), aw_Sh, [ak_283, ak_299], 0, ak_301.2.2.2.1, ak_301.2.2.2.2, [], [], [])
set_option maxRecDepth 1000000 in
theorem ac_301 : af_meth 20 ag_301 ak_301.2.2.1 = true := by decide +kernel
def ag_302 : af_G := ((8, 4, (some .boolean), mc_90), aw_Sh, [ak_283, ak_300, ak_301, ak_285, ak_284, ak_9, ak_11, ak_34, ak_93], 0, ak_302.2.2.2.1, ak_302.2.2.2.2, [], [], [])
set_option maxRecDepth 1000000 in
theorem ac_302 : af_meth 49 ag_302 ak_302.2.2.1 = true := by decide +kernel
def ag_303 : af_G := ((8, 4, (some .boolean), mc_89), aw_Sh, [ak_283, ak_302, ak_9], 0, ak_303.2.2.2.1, ak_303.2.2.2.2, [(2, (1, [(0, .inr (.inl 27)), (1, .inl (3, [])), (2, .inl (0, [0]))], [], [], ([(0, 0, 2147483647)], [], [])), [(2, 0, (0, [])), (2147483647, 1, (0, [0])), (0, 0, (0, [])), (1000, 0, (0, [])), (0, 0, (0, [])), (0, 0, (0, []))]),
  (20, (4, [(0, .inr (.inl 27)), (1, .inl (3, [])), (2, .inl (0, [0])), (3, .inl (0, [1]))], [], [((1, 5), (0, [2])), ((27, 3), (0, [3]))], ([(0, 0, 2147483646), (1, 0, 20), (2, 0, 4), (3, (-2147483647), 20)], [], [])), [(2, 0, (0, [])), (2147483647, 1, (0, [0])), (0, 0, (0, [])), (1, 0, (0, [])), (2147483647, 1, (0, [1])), (0, 0, (0, []))])], [], [])
set_option maxRecDepth 1000000 in
theorem ac_303 : af_meth 32 ag_303 ak_303.2.2.1 = true := by decide +kernel
def ag_304 : af_G := ((8, 2, (some .boolean), mc_91), aw_Sh, [ak_283, ak_302], 0, ak_304.2.2.2.1, ak_304.2.2.2.2, [], [], [])
set_option maxRecDepth 1000000 in
theorem ac_304 : af_meth 20 ag_304 ak_304.2.2.1 = true := by decide +kernel
def ag_305 : af_G := ((8, 4, (some .boolean), mc_90), aw_Sh, [ak_283, ak_303, ak_304, ak_285, ak_284, ak_9, ak_11, ak_34, ak_93], 0, ak_305.2.2.2.1, ak_305.2.2.2.2, [], [], [])
set_option maxRecDepth 1000000 in
theorem ac_305 : af_meth 49 ag_305 ak_305.2.2.1 = true := by decide +kernel
def ag_306 : af_G := ((8, 4, (some .boolean), mc_89), aw_Sh, [ak_283, ak_305, ak_9], 0, ak_306.2.2.2.1, ak_306.2.2.2.2, [(2, (1, [(0, .inr (.inl 27)), (1, .inl (2, [])), (2, .inl (0, [0]))], [], [], ([(0, 0, 2147483647)], [], [])), [(2, 0, (0, [])), (2147483647, 1, (0, [0])), (0, 0, (0, [])), (1000, 0, (0, [])), (0, 0, (0, [])), (0, 0, (0, []))]),
  (20, (4, [(0, .inr (.inl 27)), (1, .inl (2, [])), (2, .inl (0, [0])), (3, .inl (0, [1]))], [], [((1, 5), (0, [2])), ((27, 3), (0, [3]))], ([(0, 0, 2147483646), (1, 0, 20), (2, 0, 4), (3, (-2147483647), 20)], [], [])), [(2, 0, (0, [])), (2147483647, 1, (0, [0])), (0, 0, (0, [])), (1, 0, (0, [])), (2147483647, 1, (0, [1])), (0, 0, (0, []))])], [], [])
set_option maxRecDepth 1000000 in
theorem ac_306 : af_meth 32 ag_306 ak_306.2.2.1 = true := by decide +kernel
def ag_307 : af_G := ((8, 2, (some .boolean), mc_91), aw_Sh, [ak_283, ak_305], 0, ak_307.2.2.2.1, ak_307.2.2.2.2, [], [], [])
set_option maxRecDepth 1000000 in
theorem ac_307 : af_meth 20 ag_307 ak_307.2.2.1 = true := by decide +kernel
def ag_308 : af_G := ((8, 4, (some .boolean), mc_90), aw_Sh, [ak_283, ak_306, ak_307, ak_285, ak_284, ak_9, ak_11, ak_34, ak_93], 0, ak_308.2.2.2.1, ak_308.2.2.2.2, [], [], [])
set_option maxRecDepth 1000000 in
theorem ac_308 : af_meth 49 ag_308 ak_308.2.2.1 = true := by decide +kernel
def ag_309 : af_G := ((8, 4, (some .boolean), mc_89), aw_Sh, [ak_283, ak_308, ak_9], 0, ak_309.2.2.2.1, ak_309.2.2.2.2, [(2, (1, [(0, .inr (.inl 27)), (1, .inl (1, [])), (2, .inl (0, [0]))], [], [], ([(0, 0, 2147483647)], [], [])), [(2, 0, (0, [])), (2147483647, 1, (0, [0])), (0, 0, (0, [])), (1000, 0, (0, [])), (0, 0, (0, [])), (0, 0, (0, []))]),
  (20, (4, [(0, .inr (.inl 27)), (1, .inl (1, [])), (2, .inl (0, [0])), (3, .inl (0, [1]))], [], [((1, 5), (0, [2])), ((27, 3), (0, [3]))], ([(0, 0, 2147483646), (1, 0, 20), (2, 0, 4), (3, (-2147483647), 20)], [], [])), [(2, 0, (0, [])), (2147483647, 1, (0, [0])), (0, 0, (0, [])), (1, 0, (0, [])), (2147483647, 1, (0, [1])), (0, 0, (0, []))])], [], [])
set_option maxRecDepth 1000000 in
theorem ac_309 : af_meth 32 ag_309 ak_309.2.2.1 = true := by decide +kernel
def ag_310 : af_G := ((8, 1, (some .int), mc_88), aw_Sh, [ak_277, ak_309, ak_10, ak_11], 0, ak_310.2.2.2.1, ak_310.2.2.2.2, [], [], [])
set_option maxRecDepth 1000000 in
theorem ac_310 : af_meth 31 ag_310 ak_310.2.2.1 = true := by decide +kernel
def ag_311 : af_G := ((10, 2, none, mc_161), aw_Sh, [], 0, ak_311.2.2.2.1, ak_311.2.2.2.2, [], [], [])
set_option maxRecDepth 1000000 in
theorem ac_311 : af_meth 17 ag_311 ak_311.2.2.1 = true := by decide +kernel
def ag_312 : af_G := ((10, 2, none, mc_161), aw_Sh, [], 0, ak_312.2.2.2.1, ak_312.2.2.2.2, [], [], [])
set_option maxRecDepth 1000000 in
theorem ac_312 : af_meth 17 ag_312 ak_312.2.2.1 = true := by decide +kernel
def ag_313 : af_G := ((10, 2, none, mc_161), aw_Sh, [], 0, ak_313.2.2.2.1, ak_313.2.2.2.2, [], [], [])
set_option maxRecDepth 1000000 in
theorem ac_313 : af_meth 17 ag_313 ak_313.2.2.1 = true := by decide +kernel
def ag_314 : af_G := ((7, 2, none, mc_81), aw_Sh, [ak_311, ak_312, ak_313], 0, ak_314.2.2.2.1, ak_314.2.2.2.2, [], [], [])
set_option maxRecDepth 1000000 in
theorem ac_314 : af_meth 26 ag_314 ak_314.2.2.1 = true := by decide +kernel
def ag_315 : af_G := ((10, 2, (some .int), mc_147), aw_Sh, [ak_314, ak_310], 0, ak_315.2.2.2.1, ak_315.2.2.2.2, [], [], [])
set_option maxRecDepth 1000000 in
theorem ac_315 : af_meth 24 ag_315 ak_315.2.2.1 = true := by decide +kernel
def ag_316 : af_G := ((10, 2, (some .int), mc_159), aw_Sh, [], 1, ak_316.2.2.2.1, ak_316.2.2.2.2, [], [], [])
set_option maxRecDepth 1000000 in
theorem ac_316 : af_meth 17 ag_316 ak_316.2.2.1 = true := by decide +kernel
def ag_317 : af_G := ((10, 2, (some .int), mc_159), aw_Sh, [], 1, ak_317.2.2.2.1, ak_317.2.2.2.2, [], [], [])
set_option maxRecDepth 1000000 in
theorem ac_317 : af_meth 17 ag_317 ak_317.2.2.1 = true := by decide +kernel
def ag_318 : af_G := ((10, 2, (some .int), mc_159), aw_Sh, [], 1, ak_318.2.2.2.1, ak_318.2.2.2.2, [], [], [])
set_option maxRecDepth 1000000 in
theorem ac_318 : af_meth 17 ag_318 ak_318.2.2.1 = true := by decide +kernel
def ag_319 : af_G := ((7, 4, (some .boolean), mc_86), aw_Sh, [ak_317, ak_318], 2, ak_319.2.2.2.1, ak_319.2.2.2.2, [], [], [])
set_option maxRecDepth 1000000 in
theorem ac_319 : af_meth 22 ag_319 ak_319.2.2.1 = true := by decide +kernel
def ag_320 : af_G := ((7, 5, (some .boolean), mc_85), aw_Sh, [ak_134, ak_146, ak_142, ak_319, ak_108, ak_109, ak_316, ak_317], 2, ak_320.2.2.2.1, ak_320.2.2.2.2, [], [], [])
set_option maxRecDepth 1000000 in
theorem ac_320 : af_meth 34 ag_320 ak_320.2.2.1 = true := by decide +kernel
def ag_321 : af_G := ((7, 5, (some .int), mc_84), aw_Sh, [ak_320, ak_101], 1, ak_321.2.2.2.1, ak_321.2.2.2.2, [(5, (3, [(0, .inr (.inl 17)), (1, .inr (.inl 11)), (2, .inl (0, [0])), (3, .inl (0, [1])), (4, .inl (0, [2]))], [], [], ([(1, (-2147483648), 2147483647), (2, 0, 6), (0, (-2147483648), 2147483647)], [], [])), [(1, 0, (0, [])), (2147483647, 1, (0, [2])), (0, 0, (0, []))])], [], [])
set_option maxRecDepth 1000000 in
theorem ac_321 : af_meth 26 ag_321 ak_321.2.2.1 = true := by decide +kernel
def ag_322 : af_G := ((10, 3, none, mc_160), aw_Sh, [], 2, ak_322.2.2.2.1, ak_322.2.2.2.2, [], [], [])
set_option maxRecDepth 1000000 in
theorem ac_322 : af_meth 17 ag_322 ak_322.2.2.1 = true := by decide +kernel
def ag_323 : af_G := ((10, 2, (some .int), mc_159), aw_Sh, [], 1, ak_323.2.2.2.1, ak_323.2.2.2.2, [], [], [])
set_option maxRecDepth 1000000 in
theorem ac_323 : af_meth 17 ag_323 ak_323.2.2.1 = true := by decide +kernel
def ag_324 : af_G := ((7, 6, (some .int), mc_83), aw_Sh, [ak_321, ak_101, ak_316, ak_323, ak_322], 0, ak_324.2.2.2.1, ak_324.2.2.2.2, [(18, (3, [(0, .inr (.inl 17)), (1, .inr (.inl 11)), (2, .inl (0, [0])), (3, .inl (0, [1])), (4, .inl (0, [2]))], [], [], ([(0, (-2147483648), 2147483647), (1, (-2147483648), 2147483647), (2, 0, 2147483647)], [], [])), [(1, 0, (0, [])), (2147483647, 1, (0, [2])), (0, 0, (0, []))])], [], [])
set_option maxRecDepth 1000000 in
theorem ac_324 : af_meth 45 ag_324 ak_324.2.2.1 = true := by decide +kernel
def ag_325 : af_G := ((10, 5, (some .int), mc_148), aw_Sh, [ak_324, ak_227, ak_138], 1, ak_325.2.2.2.1, ak_325.2.2.2.2, [(39, (4, [(0, .inr (.inl 0)), (1, .inl (0, [0])), (2, .inl (0, [1])), (3, .inl (0, [2])), (4, .inl (0, [3]))], [], [], ([(1, (-2147483648), 2147483647), (2, (-2147483648), 2147483647), (3, 0, 6), (0, (-2147483648), 2147483647)], [], [])), [(1, 0, (0, [])), (2147483647, 1, (0, [3])), (0, 0, (0, []))])], [], [])
set_option maxRecDepth 1000000 in
theorem ac_325 : af_meth 24 ag_325 ak_325.2.2.1 = true := by decide +kernel
def ag_326 : af_G := ((10, 2, (some (.object "ReadBound$Image")), mc_155), aw_Sh, [], 1, ak_326.2.2.2.1, ak_326.2.2.2.2, [], [], [])
set_option maxRecDepth 1000000 in
theorem ac_326 : af_meth 12 ag_326 ak_326.2.2.1 = true := by decide +kernel
def ag_327 : af_G := ((10, 2, none, mc_161), aw_Sh, [], 0, ak_327.2.2.2.1, ak_327.2.2.2.2, [], [], [])
set_option maxRecDepth 1000000 in
theorem ac_327 : af_meth 17 ag_327 ak_327.2.2.1 = true := by decide +kernel
def ag_328 : af_G := ((2, 2, none, mc_11), aw_Sh, [ak_327], 0, ak_328.2.2.2.1, ak_328.2.2.2.2, [], [], [])
set_option maxRecDepth 1000000 in
theorem ac_328 : af_meth 26 ag_328 ak_328.2.2.1 = true := by decide +kernel
def ag_329 : af_G := ((10, 2, none, mc_161), aw_Sh, [], 0, ak_329.2.2.2.1, ak_329.2.2.2.2, [], [], [])
set_option maxRecDepth 1000000 in
theorem ac_329 : af_meth 17 ag_329 ak_329.2.2.1 = true := by decide +kernel
def ag_330 : af_G := ((4, 2, none, mc_36), aw_Sh, [ak_329], 0, ak_330.2.2.2.1, ak_330.2.2.2.2, [], [], [])
set_option maxRecDepth 1000000 in
theorem ac_330 : af_meth 12 ag_330 ak_330.2.2.1 = true := by decide +kernel
def ag_331 : af_G := ((10, 2, none, mc_161), aw_Sh, [], 0, ak_331.2.2.2.1, ak_331.2.2.2.2, [], [], [])
set_option maxRecDepth 1000000 in
theorem ac_331 : af_meth 17 ag_331 ak_331.2.2.1 = true := by decide +kernel
def ag_332 : af_G := ((10, 2, none, mc_161), aw_Sh, [], 0, ak_332.2.2.2.1, ak_332.2.2.2.2, [], [], [])
set_option maxRecDepth 1000000 in
theorem ac_332 : af_meth 17 ag_332 ak_332.2.2.1 = true := by decide +kernel
def ag_333 : af_G := ((10, 2, none, mc_161), aw_Sh, [], 0, ak_333.2.2.2.1, ak_333.2.2.2.2, [], [], [])
set_option maxRecDepth 1000000 in
theorem ac_333 : af_meth 17 ag_333 ak_333.2.2.1 = true := by decide +kernel
def ag_334 : af_G := ((7, 2, none, mc_81), aw_Sh, [ak_331, ak_332, ak_333], 0, ak_334.2.2.2.1, ak_334.2.2.2.2, [], [], [])
set_option maxRecDepth 1000000 in
theorem ac_334 : af_meth 26 ag_334 ak_334.2.2.1 = true := by decide +kernel
def ag_335 : af_G := ((1, 4, none, mc_7), aw_Sh, [ak_328, ak_330, ak_334], 0, ak_335.2.2.2.1, ak_335.2.2.2.2, [], [], [])
set_option maxRecDepth 1000000 in
theorem ac_335 : af_meth 22 ag_335 ak_335.2.2.1 = true := by decide +kernel
def ag_336 : af_G := ((10, 2, none, mc_161), aw_Sh, [], 0, ak_336.2.2.2.1, ak_336.2.2.2.2, [], [], [])
set_option maxRecDepth 1000000 in
theorem ac_336 : af_meth 17 ag_336 ak_336.2.2.1 = true := by decide +kernel
def ag_337 : af_G := ((2, 2, none, mc_11), aw_Sh, [ak_336], 0, ak_337.2.2.2.1, ak_337.2.2.2.2, [], [], [])
set_option maxRecDepth 1000000 in
theorem ac_337 : af_meth 26 ag_337 ak_337.2.2.1 = true := by decide +kernel
