/-! the checks; by program -/
def ag_226 : af_G := ((4, 5, none, mc_49), aw_Sh, [ak_207, ak_224, ak_225, ak_101, ak_218], 1, ak_226.2.2.2.1, ak_226.2.2.2.2, [(11, (3, [(0, .inr (.inl 13)), (1, .inl (0, [0])), (2, .inl (0, [1])), (3, .inl (0, [2]))], [], [], ([(1, 0, 2147483646), (2, 0, 2147483647), (0, (-2147483648), 2147483647)], [], [])), [(3, 0, (0, [])), (2147483647, 1, (0, [2])), (0, 0, (0, [])), (1000, 0, (0, [])), (0, 0, (0, [])), (0, 0, (0, []))]),
  (47, (4, [(0, .inr (.inl 13)), (1, .inl (0, [0])), (2, .inl (0, [1])), (3, .inl (0, [2])), (4, .inl (0, [3]))], [], [], ([(1, 0, 2147483646), (2, 0, 2147483646), (3, 0, 2147483646), (0, 1, 2147483647)], [], [])), [(3, 0, (0, [])), (2147483647, 1, (0, [2])), (0, 0, (0, [])), (2, 0, (0, [])), (2147483647, 1, (0, [3])), (0, 0, (0, []))]),
  (75, (4, [(0, .inr (.inl 13)), (1, .inl (0, [0])), (2, .inl (0, [1])), (3, .inl (0, [2])), (4, .inl (0, [3]))], [], [], ([(1, 0, 2147483646), (2, 0, 2147483646), (3, 0, 2147483646), (0, 1, 2147483647)], [], [])), [(3, 0, (0, [])), (2147483647, 1, (0, [2])), (0, 0, (0, [])), (1, 0, (0, [])), (2147483647, 1, (0, [3])), (0, 0, (0, []))])], [], [])
set_option maxRecDepth 1000000 in
theorem ac_226 : af_meth 25 ag_226 ak_226.2.2.1 = true := by decide +kernel
theorem aw_226 : af_wfK ak_226.2.1 ak_226.2.2.1 ak_226.2.2.2.2 ag_226.2.2.2.2.2.2.1 = true := by decide +kernel
theorem ah_226 : af_Holds aw_Sh 5 ak_226 := af_soundG (G := ag_226) (K := ak_226) (d := 4) pz_49 rfl rfl rfl rfl aw_226 ac_226 (af_HC ah_207 (by decide) (af_HC ah_224 (by decide) (af_HC ah_225 (by decide) (af_HC ah_101 (by decide) (af_HC ah_218 (by decide) af_HN)))))
def ag_227 : af_G := ((10, 2, (some .int), mc_151), aw_Sh, [ak_101], 0, ak_227.2.2.2.1, ak_227.2.2.2.2, [], [], [])
set_option maxRecDepth 1000000 in
theorem ac_227 : af_meth 17 ag_227 ak_227.2.2.1 = true := by decide +kernel
theorem aw_227 : af_wfK ak_227.2.1 ak_227.2.2.1 ak_227.2.2.2.2 ag_227.2.2.2.2.2.2.1 = true := by decide +kernel
theorem ah_227 : af_Holds aw_Sh 2 ak_227 := af_soundG (G := ag_227) (K := ak_227) (d := 1) pz_151 rfl rfl rfl rfl aw_227 ac_227 (af_HC ah_101 (by decide) af_HN)
def ag_228 : af_G := ((10, 5, (some .int), mc_157), aw_Sh, [ak_205, ak_217, ak_223, ak_226, ak_210, ak_201, ak_227], 2, ak_228.2.2.2.1, ak_228.2.2.2.2, [(13, (3, [(0, .inr (.inl 0)), (1, .inl (0, [0])), (2, .inl (0, [1])), (3, .inl (0, [2]))], [], [], ([(2, 0, 10), (0, (-2147483648), 2147483647), (1, (-2147483648), 2147483647)], [], [])), [(2, 0, (0, [])), (2147483647, 1, (0, [2])), (0, 0, (0, []))]),
  (76, (4, [(0, .inr (.inl 0)), (1, .inl (0, [0])), (2, .inl (0, [1])), (3, .inl (0, [2])), (4, .inl (0, [3]))], [], [], ([(2, (-2147483648), 2147483647), (3, 0, 6), (0, (-2147483648), 2147483647), (1, (-2147483648), 2147483647)], [], [])), [(1, 0, (0, [])), (2147483647, 1, (0, [3])), (0, 0, (0, []))])], [], [])
set_option maxRecDepth 1000000 in
theorem ac_228 : af_meth 33 ag_228 ak_228.2.2.1 = true := by decide +kernel
theorem aw_228 : af_wfK ak_228.2.1 ak_228.2.2.1 ak_228.2.2.2.2 ag_228.2.2.2.2.2.2.1 = true := by decide +kernel
theorem ah_228 : af_Holds aw_Sh 6 ak_228 := af_soundG (G := ag_228) (K := ak_228) (d := 5) pz_157 rfl rfl rfl rfl aw_228 ac_228 (af_HC ah_205 (by decide) (af_HC ah_217 (by decide) (af_HC ah_223 (by decide) (af_HC ah_226 (by decide) (af_HC ah_210 (by decide) (af_HC ah_201 (by decide) (af_HC ah_227 (by decide) af_HN)))))))
def ag_229 : af_G := ((10, 8, (some .int), mc_137), aw_Sh, [ak_201, ak_117, ak_228, ak_138], 2, ak_229.2.2.2.1, ak_229.2.2.2.2, [(41, (6, [(0, .inr (.inl 0)), (1, .inl (0, [0])), (2, .inl (0, [1])), (3, .inl (0, [2])), (4, .inl (0, [3])), (5, .inl (0, [4])), (6, .inl (0, [5]))], [], [], ([(2, 1, 10), (3, (-1), 2147483646), (4, (-2147483648), 2147483647), (5, 1, 2147483647), (0, 0, 2147483646), (1, 1, 3)], [], [])), [(1, 0, (0, [])), (2147483647, 1, (0, [5])), (0, 0, (0, []))])], [], [])
set_option maxRecDepth 1000000 in
theorem ac_229 : af_meth 34 ag_229 ak_229.2.2.1 = true := by decide +kernel
theorem aw_229 : af_wfK ak_229.2.1 ak_229.2.2.1 ak_229.2.2.2.2 ag_229.2.2.2.2.2.2.1 = true := by decide +kernel
theorem ah_229 : af_Holds aw_Sh 7 ak_229 := af_soundG (G := ag_229) (K := ak_229) (d := 6) pz_137 rfl rfl rfl rfl aw_229 ac_229 (af_HC ah_201 (by decide) (af_HC ah_117 (by decide) (af_HC ah_228 (by decide) (af_HC ah_138 (by decide) af_HN))))
def ag_230 : af_G := ((10, 1, (some .int), mc_138), aw_Sh, [], 0, ak_230.2.2.2.1, ak_230.2.2.2.2, [], [], [])
set_option maxRecDepth 1000000 in
theorem ac_230 : af_meth 9 ag_230 ak_230.2.2.1 = true := by decide +kernel
theorem aw_230 : af_wfK ak_230.2.1 ak_230.2.2.1 ak_230.2.2.2.2 ag_230.2.2.2.2.2.2.1 = true := by decide +kernel
theorem ah_230 : af_Holds aw_Sh 1 ak_230 := af_soundG (G := ag_230) (K := ak_230) (d := 0) pz_138 rfl rfl rfl rfl aw_230 ac_230 af_HN
def ag_231 : af_G := ((10, 2, (some .int), mc_151), aw_Sh, [ak_123], 0, ak_231.2.2.2.1, ak_231.2.2.2.2, [], [], [])
set_option maxRecDepth 1000000 in
theorem ac_231 : af_meth 17 ag_231 ak_231.2.2.1 = true := by decide +kernel
theorem aw_231 : af_wfK ak_231.2.1 ak_231.2.2.1 ak_231.2.2.2.2 ag_231.2.2.2.2.2.2.1 = true := by decide +kernel
theorem ah_231 : af_Holds aw_Sh 2 ak_231 := af_soundG (G := ag_231) (K := ak_231) (d := 1) pz_151 rfl rfl rfl rfl aw_231 ac_231 (af_HC ah_123 (by decide) af_HN)
def ag_232 : af_G := ((2, 4, (some .int), mc_18), aw_Sh, [ak_128, ak_143, ak_129, ak_144, ak_130, ak_145, ak_123], 1, ak_232.2.2.2.1, ak_232.2.2.2.2, [(4, (3, [(0, .inr (.inl 4)), (1, .inl (0, [0])), (2, .inl (0, [1])), (3, .inl (0, [2]))], [], [], ([(1, (-2147483648), 2147483647), (2, 0, 6), (0, (-2147483648), 2147483647)], [], [])), [(1, 0, (0, [])), (2147483647, 1, (0, [2])), (0, 0, (0, []))])], [], [])
set_option maxRecDepth 1000000 in
theorem ac_232 : af_meth 38 ag_232 ak_232.2.2.1 = true := by decide +kernel
theorem aw_232 : af_wfK ak_232.2.1 ak_232.2.2.1 ak_232.2.2.2.2 ag_232.2.2.2.2.2.2.1 = true := by decide +kernel
theorem ah_232 : af_Holds aw_Sh 2 ak_232 := af_soundG (G := ag_232) (K := ak_232) (d := 1) pz_18 rfl rfl rfl rfl aw_232 ac_232 (af_HC ah_128 (by decide) (af_HC ah_143 (by decide) (af_HC ah_129 (by decide) (af_HC ah_144 (by decide) (af_HC ah_130 (by decide) (af_HC ah_145 (by decide) (af_HC ah_123 (by decide) af_HN)))))))
def ag_233 : af_G := ((10, 5, (some .int), mc_139), aw_Sh, [ak_232, ak_231, ak_179], 1, ak_233.2.2.2.1, ak_233.2.2.2.2, [(26, (4, [(0, .inr (.inl 0)), (1, .inl (0, [0])), (2, .inl (0, [1])), (3, .inl (0, [2])), (4, .inl (0, [3]))], [], [], ([(1, (-2147483648), 2147483647), (2, (-2147483648), 2147483647), (3, 0, 2147483647), (0, 0, 2147483646)], [], [])), [(1, 0, (0, [])), (2147483647, 1, (0, [3])), (0, 0, (0, []))])], [], [])
set_option maxRecDepth 1000000 in
theorem ac_233 : af_meth 26 ag_233 ak_233.2.2.1 = true := by decide +kernel
theorem aw_233 : af_wfK ak_233.2.1 ak_233.2.2.1 ak_233.2.2.2.2 ag_233.2.2.2.2.2.2.1 = true := by decide +kernel
theorem ah_233 : af_Holds aw_Sh 3 ak_233 := af_soundG (G := ag_233) (K := ak_233) (d := 2) pz_139 rfl rfl rfl rfl aw_233 ac_233 (af_HC ah_232 (by decide) (af_HC ah_231 (by decide) (af_HC ah_179 (by decide) af_HN)))
def ag_234 : af_G := ((10, 1, (some .int), mc_140), aw_Sh, [], 0, ak_234.2.2.2.1, ak_234.2.2.2.2, [], [], [])
set_option maxRecDepth 1000000 in
theorem ac_234 : af_meth 9 ag_234 ak_234.2.2.1 = true := by decide +kernel
theorem aw_234 : af_wfK ak_234.2.1 ak_234.2.2.1 ak_234.2.2.2.2 ag_234.2.2.2.2.2.2.1 = true := by decide +kernel
theorem ah_234 : af_Holds aw_Sh 1 ak_234 := af_soundG (G := ag_234) (K := ak_234) (d := 0) pz_140 rfl rfl rfl rfl aw_234 ac_234 af_HN
def ag_235 : af_G := ((10, 5, (some .int), mc_141), aw_Sh, [ak_205, ak_207, ak_226, ak_213, ak_168], 3, ak_235.2.2.2.1, ak_235.2.2.2.2, [(36, (4, [(0, .inr (.inl 0)), (1, .inl (0, [0])), (2, .inl (0, [1])), (3, .inl (0, [2])), (4, .inl (0, [3]))], [], [], ([(3, 0, 61), (0, 0, 2147483646), (1, 0, 2147483646), (2, 1, 60)], [], [])), [(1, 0, (0, [])), (2147483647, 1, (0, [3])), (0, 0, (0, []))])], [], [])
set_option maxRecDepth 1000000 in
theorem ac_235 : af_meth 28 ag_235 ak_235.2.2.1 = true := by decide +kernel
theorem aw_235 : af_wfK ak_235.2.1 ak_235.2.2.1 ak_235.2.2.2.2 ag_235.2.2.2.2.2.2.1 = true := by decide +kernel
theorem ah_235 : af_Holds aw_Sh 6 ak_235 := af_soundG (G := ag_235) (K := ak_235) (d := 5) pz_141 rfl rfl rfl rfl aw_235 ac_235 (af_HC ah_205 (by decide) (af_HC ah_207 (by decide) (af_HC ah_226 (by decide) (af_HC ah_213 (by decide) (af_HC ah_168 (by decide) af_HN)))))
def ag_236 : af_G := ((10, 2, (some .int), mc_159), aw_Sh, [], 0, ak_236.2.2.2.1, ak_236.2.2.2.2, [], [], [])
set_option maxRecDepth 1000000 in
theorem ac_236 : af_meth 17 ag_236 ak_236.2.2.1 = true := by decide +kernel
theorem aw_236 : af_wfK ak_236.2.1 ak_236.2.2.1 ak_236.2.2.2.2 ag_236.2.2.2.2.2.2.1 = true := by decide +kernel
theorem ah_236 : af_Holds aw_Sh 1 ak_236 := af_soundG (G := ag_236) (K := ak_236) (d := 0) pz_159 rfl rfl rfl rfl aw_236 ac_236 af_HN
def ag_237 : af_G := ((10, 2, (some .int), mc_159), aw_Sh, [], 1, ak_237.2.2.2.1, ak_237.2.2.2.2, [], [], [])
set_option maxRecDepth 1000000 in
theorem ac_237 : af_meth 17 ag_237 ak_237.2.2.1 = true := by decide +kernel
theorem aw_237 : af_wfK ak_237.2.1 ak_237.2.2.1 ak_237.2.2.2.2 ag_237.2.2.2.2.2.2.1 = true := by decide +kernel
theorem ah_237 : af_Holds aw_Sh 1 ak_237 := af_soundG (G := ag_237) (K := ak_237) (d := 0) pz_159 rfl rfl rfl rfl aw_237 ac_237 af_HN
def ag_238 : af_G := ((10, 2, (some .int), mc_159), aw_Sh, [], 1, ak_238.2.2.2.1, ak_238.2.2.2.2, [], [], [])
set_option maxRecDepth 1000000 in
theorem ac_238 : af_meth 17 ag_238 ak_238.2.2.1 = true := by decide +kernel
theorem aw_238 : af_wfK ak_238.2.1 ak_238.2.2.1 ak_238.2.2.2.2 ag_238.2.2.2.2.2.2.1 = true := by decide +kernel
theorem ah_238 : af_Holds aw_Sh 1 ak_238 := af_soundG (G := ag_238) (K := ak_238) (d := 0) pz_159 rfl rfl rfl rfl aw_238 ac_238 af_HN
def ag_239 : af_G := ((2, 6, (some .int), mc_19), aw_Sh, [ak_236, ak_237, ak_238, ak_101], 1, ak_239.2.2.2.1, ak_239.2.2.2.2, [(4, (3, [(0, .inr (.inl 4)), (1, .inl (0, [0])), (2, .inl (0, [1])), (3, .inl (0, [2]))], [], [], ([(1, (-2147483648), 2147483647), (2, 0, 2147483647), (0, (-2147483648), 2147483647)], [], [])), [(2, 0, (0, [])), (2147483647, 1, (0, [2])), (0, 0, (0, [])), (1000, 0, (0, [])), (0, 0, (0, [])), (0, 0, (0, []))]),
  (13, (4, [(0, .inr (.inl 4)), (1, .inl (0, [0])), (2, .inl (0, [1])), (3, .inl (0, [2])), (4, .inl (0, [3]))], [], [], ([(1, (-2147483648), 2147483647), (2, 0, 2147483646), (3, 0, 6), (0, (-2147483648), 2147483647)], [], [])), [(2, 0, (0, [])), (2147483647, 1, (0, [2])), (0, 0, (0, [])), (1, 0, (0, [])), (2147483647, 1, (0, [3])), (0, 0, (0, []))])], [], [])
set_option maxRecDepth 1000000 in
theorem ac_239 : af_meth 40 ag_239 ak_239.2.2.1 = true := by decide +kernel
theorem aw_239 : af_wfK ak_239.2.1 ak_239.2.2.1 ak_239.2.2.2.2 ag_239.2.2.2.2.2.2.1 = true := by decide +kernel
theorem ah_239 : af_Holds aw_Sh 2 ak_239 := af_soundG (G := ag_239) (K := ak_239) (d := 1) pz_19 rfl rfl rfl rfl aw_239 ac_239 (af_HC ah_236 (by decide) (af_HC ah_237 (by decide) (af_HC ah_238 (by decide) (af_HC ah_101 (by decide) af_HN))))
def ag_240 : af_G := ((10, 2, (some .int), mc_142), aw_Sh, [ak_239, ak_117], 1, ak_240.2.2.2.1, ak_240.2.2.2.2, [], [], [])
set_option maxRecDepth 1000000 in
theorem ac_240 : af_meth 17 ag_240 ak_240.2.2.1 = true := by decide +kernel
theorem aw_240 : af_wfK ak_240.2.1 ak_240.2.2.1 ak_240.2.2.2.2 ag_240.2.2.2.2.2.2.1 = true := by decide +kernel
theorem ah_240 : af_Holds aw_Sh 3 ak_240 := af_soundG (G := ag_240) (K := ak_240) (d := 2) pz_142 rfl rfl rfl rfl aw_240 ac_240 (af_HC ah_239 (by decide) (af_HC ah_117 (by decide) af_HN))
def ag_241 : af_G := ((4, 2, (some .int), mc_54), aw_Sh, [], 1, ak_241.2.2.2.1, ak_241.2.2.2.2, [], [], [])
set_option maxRecDepth 1000000 in
theorem ac_241 : af_meth 24 ag_241 ak_241.2.2.1 = true := by decide +kernel
theorem aw_241 : af_wfK ak_241.2.1 ak_241.2.2.1 ak_241.2.2.2.2 ag_241.2.2.2.2.2.2.1 = true := by decide +kernel
theorem ah_241 : af_Holds aw_Sh 1 ak_241 := af_soundG (G := ag_241) (K := ak_241) (d := 0) pz_54 rfl rfl rfl rfl aw_241 ac_241 af_HN
def ag_242 : af_G := ((4, 3, none, mc_53), aw_Sh, [ak_150, ak_154, ak_241, ak_97], 1, ak_242.2.2.2.1, ak_242.2.2.2.2, [], [], [])
set_option maxRecDepth 1000000 in
theorem ac_242 : af_meth 33 ag_242 ak_242.2.2.1 = true := by decide +kernel
theorem aw_242 : af_wfK ak_242.2.1 ak_242.2.2.1 ak_242.2.2.2.2 ag_242.2.2.2.2.2.2.1 = true := by decide +kernel
theorem ah_242 : af_Holds aw_Sh 6 ak_242 := af_soundG (G := ag_242) (K := ak_242) (d := 5) pz_53 rfl rfl rfl rfl aw_242 ac_242 (af_HC ah_150 (by decide) (af_HC ah_154 (by decide) (af_HC ah_241 (by decide) (af_HC ah_97 (by decide) af_HN))))
def ag_243 : af_G := ((4, 5, none, mc_52), aw_Sh, [ak_132, ak_150, ak_154, ak_164, ak_242, ak_241, ak_101, ak_97], 2, ak_243.2.2.2.1, ak_243.2.2.2.2, [(7, (3, [(0, .inr (.inl 11)), (1, .inl (0, [0])), (2, .inl (0, [1])), (3, .inl (0, [2]))], [], [], ([(2, 0, 2147483647), (0, (-2147483648), 2147483647), (1, (-2147483648), 2147483647)], [], [])), [(2, 0, (0, [])), (2147483647, 1, (0, [2])), (0, 0, (0, [])), (1000, 0, (0, [])), (0, 0, (0, [])), (0, 0, (0, []))]),
  (68, (4, [(0, .inr (.inl 11)), (1, .inl (0, [0])), (2, .inl (0, [1])), (3, .inl (0, [2])), (4, .inl (0, [3]))], [], [], ([(2, 0, 2147483646), (3, 0, 6), (0, 1, 2147483647), (1, (-2147483648), 2147483647)], [], [])), [(2, 0, (0, [])), (2147483647, 1, (0, [2])), (0, 0, (0, [])), (1, 0, (0, [])), (2147483647, 1, (0, [3])), (0, 0, (0, []))])], [], [])
set_option maxRecDepth 1000000 in
theorem ac_243 : af_meth 37 ag_243 ak_243.2.2.1 = true := by decide +kernel
theorem aw_243 : af_wfK ak_243.2.1 ak_243.2.2.1 ak_243.2.2.2.2 ag_243.2.2.2.2.2.2.1 = true := by decide +kernel
theorem ah_243 : af_Holds aw_Sh 7 ak_243 := af_soundG (G := ag_243) (K := ak_243) (d := 6) pz_52 rfl rfl rfl rfl aw_243 ac_243 (af_HC ah_132 (by decide) (af_HC ah_150 (by decide) (af_HC ah_154 (by decide) (af_HC ah_164 (by decide) (af_HC ah_242 (by decide) (af_HC ah_241 (by decide) (af_HC ah_101 (by decide) (af_HC ah_97 (by decide) af_HN))))))))
def ag_244 : af_G := ((10, 4, (some .int), mc_143), aw_Sh, [ak_132, ak_243, ak_151, ak_201], 2, ak_244.2.2.2.1, ak_244.2.2.2.2, [], [], [])
set_option maxRecDepth 1000000 in
theorem ac_244 : af_meth 39 ag_244 ak_244.2.2.1 = true := by decide +kernel
theorem aw_244 : af_wfK ak_244.2.1 ak_244.2.2.1 ak_244.2.2.2.2 ag_244.2.2.2.2.2.2.1 = true := by decide +kernel
theorem ah_244 : af_Holds aw_Sh 8 ak_244 := af_soundG (G := ag_244) (K := ak_244) (d := 7) pz_143 rfl rfl rfl rfl aw_244 ac_244 (af_HC ah_132 (by decide) (af_HC ah_243 (by decide) (af_HC ah_151 (by decide) (af_HC ah_201 (by decide) af_HN))))
def ag_245 : af_G := ((4, 2, (some .int), mc_54), aw_Sh, [], 1, ak_245.2.2.2.1, ak_245.2.2.2.2, [], [], [])
set_option maxRecDepth 1000000 in
theorem ac_245 : af_meth 24 ag_245 ak_245.2.2.1 = true := by decide +kernel
theorem aw_245 : af_wfK ak_245.2.1 ak_245.2.2.1 ak_245.2.2.2.2 ag_245.2.2.2.2.2.2.1 = true := by decide +kernel
theorem ah_245 : af_Holds aw_Sh 1 ak_245 := af_soundG (G := ag_245) (K := ak_245) (d := 0) pz_54 rfl rfl rfl rfl aw_245 ac_245 af_HN
def ag_246 : af_G := ((4, 3, none, mc_53), aw_Sh, [ak_217, ak_223, ak_245, ak_97], 1, ak_246.2.2.2.1, ak_246.2.2.2.2, [], [], [])
set_option maxRecDepth 1000000 in
theorem ac_246 : af_meth 33 ag_246 ak_246.2.2.1 = true := by decide +kernel
theorem aw_246 : af_wfK ak_246.2.1 ak_246.2.2.1 ak_246.2.2.2.2 ag_246.2.2.2.2.2.2.1 = true := by decide +kernel
theorem ah_246 : af_Holds aw_Sh 6 ak_246 := af_soundG (G := ag_246) (K := ak_246) (d := 5) pz_53 rfl rfl rfl rfl aw_246 ac_246 (af_HC ah_217 (by decide) (af_HC ah_223 (by decide) (af_HC ah_245 (by decide) (af_HC ah_97 (by decide) af_HN))))
def ag_247 : af_G := ((4, 5, none, mc_52), aw_Sh, [ak_207, ak_217, ak_223, ak_226, ak_246, ak_245, ak_101, ak_97], 2, ak_247.2.2.2.1, ak_247.2.2.2.2, [(7, (3, [(0, .inr (.inl 13)), (1, .inl (0, [0])), (2, .inl (0, [1])), (3, .inl (0, [2]))], [], [], ([(2, 0, 2147483647), (0, (-2147483648), 2147483647), (1, (-2147483648), 2147483647)], [], [])), [(2, 0, (0, [])), (2147483647, 1, (0, [2])), (0, 0, (0, [])), (1000, 0, (0, [])), (0, 0, (0, [])), (0, 0, (0, []))]),
  (68, (4, [(0, .inr (.inl 13)), (1, .inl (0, [0])), (2, .inl (0, [1])), (3, .inl (0, [2])), (4, .inl (0, [3]))], [], [], ([(2, 0, 2147483646), (3, 0, 6), (0, 1, 2147483647), (1, (-2147483648), 2147483647)], [], [])), [(2, 0, (0, [])), (2147483647, 1, (0, [2])), (0, 0, (0, [])), (1, 0, (0, [])), (2147483647, 1, (0, [3])), (0, 0, (0, []))])], [], [])
set_option maxRecDepth 1000000 in
theorem ac_247 : af_meth 37 ag_247 ak_247.2.2.1 = true := by decide +kernel
theorem aw_247 : af_wfK ak_247.2.1 ak_247.2.2.1 ak_247.2.2.2.2 ag_247.2.2.2.2.2.2.1 = true := by decide +kernel
theorem ah_247 : af_Holds aw_Sh 7 ak_247 := af_soundG (G := ag_247) (K := ak_247) (d := 6) pz_52 rfl rfl rfl rfl aw_247 ac_247 (af_HC ah_207 (by decide) (af_HC ah_217 (by decide) (af_HC ah_223 (by decide) (af_HC ah_226 (by decide) (af_HC ah_246 (by decide) (af_HC ah_245 (by decide) (af_HC ah_101 (by decide) (af_HC ah_97 (by decide) af_HN))))))))
def ag_248 : af_G := ((10, 6, (some .int), mc_144), aw_Sh, [ak_205, ak_247, ak_213, ak_117], 3, ak_248.2.2.2.1, ak_248.2.2.2.2, [(28, (5, [(0, .inr (.inl 0)), (1, .inl (0, [0])), (2, .inl (0, [1])), (3, .inl (0, [2])), (4, .inl (0, [3])), (5, .inl (0, [4]))], [], [], ([(3, (-2147483648), 2147483647), (4, 0, 30), (0, 0, 2147483646), (1, 1, 30), (2, (-2147483648), 2147483647)], [], [])), [(1, 0, (0, [])), (2147483647, 1, (0, [4])), (0, 0, (0, []))])], [], [])
set_option maxRecDepth 1000000 in
theorem ac_248 : af_meth 29 ag_248 ak_248.2.2.1 = true := by decide +kernel
theorem aw_248 : af_wfK ak_248.2.1 ak_248.2.2.1 ak_248.2.2.2.2 ag_248.2.2.2.2.2.2.1 = true := by decide +kernel
theorem ah_248 : af_Holds aw_Sh 8 ak_248 := af_soundG (G := ag_248) (K := ak_248) (d := 7) pz_144 rfl rfl rfl rfl aw_248 ac_248 (af_HC ah_205 (by decide) (af_HC ah_247 (by decide) (af_HC ah_213 (by decide) (af_HC ah_117 (by decide) af_HN))))
def ag_249 : af_G := ((10, 2, (some .int), mc_159), aw_Sh, [], 1, ak_249.2.2.2.1, ak_249.2.2.2.2, [], [], [])
set_option maxRecDepth 1000000 in
theorem ac_249 : af_meth 17 ag_249 ak_249.2.2.1 = true := by decide +kernel
theorem aw_249 : af_wfK ak_249.2.1 ak_249.2.2.1 ak_249.2.2.2.2 ag_249.2.2.2.2.2.2.1 = true := by decide +kernel
theorem ah_249 : af_Holds aw_Sh 1 ak_249 := af_soundG (G := ag_249) (K := ak_249) (d := 0) pz_159 rfl rfl rfl rfl aw_249 ac_249 af_HN
def ag_250 : af_G := ((10, 2, (some .int), mc_159), aw_Sh, [], 0, ak_250.2.2.2.1, ak_250.2.2.2.2, [], [], [])
set_option maxRecDepth 1000000 in
theorem ac_250 : af_meth 17 ag_250 ak_250.2.2.1 = true := by decide +kernel
theorem aw_250 : af_wfK ak_250.2.1 ak_250.2.2.1 ak_250.2.2.2.2 ag_250.2.2.2.2.2.2.1 = true := by decide +kernel
theorem ah_250 : af_Holds aw_Sh 1 ak_250 := af_soundG (G := ag_250) (K := ak_250) (d := 0) pz_159 rfl rfl rfl rfl aw_250 ac_250 af_HN
def ag_251 : af_G := ((10, 2, (some .int), mc_159), aw_Sh, [], 1, ak_251.2.2.2.1, ak_251.2.2.2.2, [], [], [])
set_option maxRecDepth 1000000 in
theorem ac_251 : af_meth 17 ag_251 ak_251.2.2.1 = true := by decide +kernel
theorem aw_251 : af_wfK ak_251.2.1 ak_251.2.2.1 ak_251.2.2.2.2 ag_251.2.2.2.2.2.2.1 = true := by decide +kernel
theorem ah_251 : af_Holds aw_Sh 1 ak_251 := af_soundG (G := ag_251) (K := ak_251) (d := 0) pz_159 rfl rfl rfl rfl aw_251 ac_251 af_HN
def ag_252 : af_G := ((10, 2, (some .int), mc_159), aw_Sh, [], 1, ak_252.2.2.2.1, ak_252.2.2.2.2, [], [], [])
set_option maxRecDepth 1000000 in
theorem ac_252 : af_meth 17 ag_252 ak_252.2.2.1 = true := by decide +kernel
theorem aw_252 : af_wfK ak_252.2.1 ak_252.2.2.1 ak_252.2.2.2.2 ag_252.2.2.2.2.2.2.1 = true := by decide +kernel
theorem ah_252 : af_Holds aw_Sh 1 ak_252 := af_soundG (G := ag_252) (K := ak_252) (d := 0) pz_159 rfl rfl rfl rfl aw_252 ac_252 af_HN
def ag_253 : af_G := ((10, 2, (some .int), mc_159), aw_Sh, [], 1, ak_253.2.2.2.1, ak_253.2.2.2.2, [], [], [])
set_option maxRecDepth 1000000 in
theorem ac_253 : af_meth 17 ag_253 ak_253.2.2.1 = true := by decide +kernel
theorem aw_253 : af_wfK ak_253.2.1 ak_253.2.2.1 ak_253.2.2.2.2 ag_253.2.2.2.2.2.2.1 = true := by decide +kernel
theorem ah_253 : af_Holds aw_Sh 1 ak_253 := af_soundG (G := ag_253) (K := ak_253) (d := 0) pz_159 rfl rfl rfl rfl aw_253 ac_253 af_HN
def ag_254 : af_G := ((10, 2, (some .int), mc_159), aw_Sh, [], 1, ak_254.2.2.2.1, ak_254.2.2.2.2, [], [], [])
set_option maxRecDepth 1000000 in
theorem ac_254 : af_meth 17 ag_254 ak_254.2.2.1 = true := by decide +kernel
theorem aw_254 : af_wfK ak_254.2.1 ak_254.2.2.1 ak_254.2.2.2.2 ag_254.2.2.2.2.2.2.1 = true := by decide +kernel
theorem ah_254 : af_Holds aw_Sh 1 ak_254 := af_soundG (G := ag_254) (K := ak_254) (d := 0) pz_159 rfl rfl rfl rfl aw_254 ac_254 af_HN
def ag_255 : af_G := ((10, 2, (some .int), mc_159), aw_Sh, [], 1, ak_255.2.2.2.1, ak_255.2.2.2.2, [], [], [])
set_option maxRecDepth 1000000 in
theorem ac_255 : af_meth 17 ag_255 ak_255.2.2.1 = true := by decide +kernel
theorem aw_255 : af_wfK ak_255.2.1 ak_255.2.2.1 ak_255.2.2.2.2 ag_255.2.2.2.2.2.2.1 = true := by decide +kernel
theorem ah_255 : af_Holds aw_Sh 1 ak_255 := af_soundG (G := ag_255) (K := ak_255) (d := 0) pz_159 rfl rfl rfl rfl aw_255 ac_255 af_HN
def ag_256 : af_G := ((2, 5, (some .int), mc_13), aw_Sh, [ak_250, ak_252, ak_253, ak_251, ak_254, ak_255, ak_249], 1, ak_256.2.2.2.1, ak_256.2.2.2.2, [(3, (2, [(0, .inr (.inl 4)), (1, .inr (.inr ())), (3, .inl (0, [0])), (4, .inl (0, [1]))], [], [], ([(1, 0, 27), (0, (-2147483648), 2147483647)], [], [])), [(1, 0, (0, [])), (2147483647, 1, (0, [1])), (0, 0, (0, []))])], [], [])
set_option maxRecDepth 1000000 in
theorem ac_256 : af_meth 39 ag_256 ak_256.2.2.1 = true := by decide +kernel
theorem aw_256 : af_wfK ak_256.2.1 ak_256.2.2.1 ak_256.2.2.2.2 ag_256.2.2.2.2.2.2.1 = true := by decide +kernel
theorem ah_256 : af_Holds aw_Sh 2 ak_256 := af_soundG (G := ag_256) (K := ak_256) (d := 1) pz_13 rfl rfl rfl rfl aw_256 ac_256 (af_HC ah_250 (by decide) (af_HC ah_252 (by decide) (af_HC ah_253 (by decide) (af_HC ah_251 (by decide) (af_HC ah_254 (by decide) (af_HC ah_255 (by decide) (af_HC ah_249 (by decide) af_HN)))))))
def ag_257 : af_G := ((9, 4, (some .int), mc_108), aw_Sh, [ak_256, ak_11, ak_12], 1, ak_257.2.2.2.1, ak_257.2.2.2.2, [], [], [])
set_option maxRecDepth 1000000 in
theorem ac_257 : af_meth 24 ag_257 ak_257.2.2.1 = true := by decide +kernel
theorem aw_257 : af_wfK ak_257.2.1 ak_257.2.2.1 ak_257.2.2.2.2 ag_257.2.2.2.2.2.2.1 = true := by decide +kernel
theorem ah_257 : af_Holds aw_Sh 3 ak_257 := af_soundG (G := ag_257) (K := ak_257) (d := 2) pz_108 rfl rfl rfl rfl aw_257 ac_257 (af_HC ah_256 (by decide) (af_HC ah_11 (by decide) (af_HC ah_12 (by decide) af_HN)))
def ag_258 : af_G := ((0, 1, (some .boolean), mc_4), aw_Sh, [ak_9, ak_11], 0, ak_258.2.2.2.1, ak_258.2.2.2.2, [], [], [])
set_option maxRecDepth 1000000 in
theorem ac_258 : af_meth 15 ag_258 ak_258.2.2.1 = true := by decide +kernel
theorem aw_258 : af_wfK ak_258.2.1 ak_258.2.2.1 ak_258.2.2.2.2 ag_258.2.2.2.2.2.2.1 = true := by decide +kernel
theorem ah_258 : af_Holds aw_Sh 4 ak_258 := af_soundG (G := ag_258) (K := ak_258) (d := 3) pz_4 rfl rfl rfl rfl aw_258 ac_258 (af_HC ah_9 (by decide) (af_HC ah_11 (by decide) af_HN))
def ag_259 : af_G := ((10, 3, none, mc_160), aw_Sh, [], 2, ak_259.2.2.2.1, ak_259.2.2.2.2, [], [], [])
set_option maxRecDepth 1000000 in
theorem ac_259 : af_meth 17 ag_259 ak_259.2.2.1 = true := by decide +kernel
theorem aw_259 : af_wfK ak_259.2.1 ak_259.2.2.1 ak_259.2.2.2.2 ag_259.2.2.2.2.2.2.1 = true := by decide +kernel
theorem ah_259 : af_Holds aw_Sh 1 ak_259 := af_soundG (G := ag_259) (K := ak_259) (d := 0) pz_160 rfl rfl rfl rfl aw_259 ac_259 af_HN
def ag_260 : af_G := ((10, 3, none, mc_160), aw_Sh, [], 2, ak_260.2.2.2.1, ak_260.2.2.2.2, [], [], [])
set_option maxRecDepth 1000000 in
theorem ac_260 : af_meth 17 ag_260 ak_260.2.2.1 = true := by decide +kernel
theorem aw_260 : af_wfK ak_260.2.1 ak_260.2.2.1 ak_260.2.2.2.2 ag_260.2.2.2.2.2.2.1 = true := by decide +kernel
theorem ah_260 : af_Holds aw_Sh 1 ak_260 := af_soundG (G := ag_260) (K := ak_260) (d := 0) pz_160 rfl rfl rfl rfl aw_260 ac_260 af_HN
def ag_261 : af_G := ((10, 3, none, mc_160), aw_Sh, [], 2, ak_261.2.2.2.1, ak_261.2.2.2.2, [], [], [])
set_option maxRecDepth 1000000 in
theorem ac_261 : af_meth 17 ag_261 ak_261.2.2.1 = true := by decide +kernel
theorem aw_261 : af_wfK ak_261.2.1 ak_261.2.2.1 ak_261.2.2.2.2 ag_261.2.2.2.2.2.2.1 = true := by decide +kernel
theorem ah_261 : af_Holds aw_Sh 1 ak_261 := af_soundG (G := ag_261) (K := ak_261) (d := 0) pz_160 rfl rfl rfl rfl aw_261 ac_261 af_HN
def ag_262 : af_G := ((0, 4, (some .boolean), mc_5), aw_Sh, [ak_259, ak_260, ak_261], 3, ak_262.2.2.2.1, ak_262.2.2.2.2, [], [], [])
set_option maxRecDepth 1000000 in
theorem ac_262 : af_meth 38 ag_262 ak_262.2.2.1 = true := by decide +kernel
theorem aw_262 : af_wfK ak_262.2.1 ak_262.2.2.1 ak_262.2.2.2.2 ag_262.2.2.2.2.2.2.1 = true := by decide +kernel
theorem ah_262 : af_Holds aw_Sh 2 ak_262 := af_soundG (G := ag_262) (K := ak_262) (d := 1) pz_5 rfl rfl rfl rfl aw_262 ac_262 (af_HC ah_259 (by decide) (af_HC ah_260 (by decide) (af_HC ah_261 (by decide) af_HN)))
def ag_263 : af_G := ((9, 4, (some .int), mc_109), aw_Sh, [ak_9, ak_257], 1, ak_263.2.2.2.1, ak_263.2.2.2.2, [], [], [])
set_option maxRecDepth 1000000 in
theorem ac_263 : af_meth 18 ag_263 ak_263.2.2.1 = true := by decide +kernel
theorem aw_263 : af_wfK ak_263.2.1 ak_263.2.2.1 ak_263.2.2.2.2 ag_263.2.2.2.2.2.2.1 = true := by decide +kernel
theorem ah_263 : af_Holds aw_Sh 4 ak_263 := af_soundG (G := ag_263) (K := ak_263) (d := 3) pz_109 rfl rfl rfl rfl aw_263 ac_263 (af_HC ah_9 (by decide) (af_HC ah_257 (by decide) af_HN))
def ag_264 : af_G := ((0, 3, (some .boolean), mc_3), aw_Sh, [ak_258, ak_262, ak_9, ak_11, ak_257, ak_263], 0, ak_264.2.2.2.1, ak_264.2.2.2.2, [], [], [])
set_option maxRecDepth 1000000 in
theorem ac_264 : af_meth 39 ag_264 ak_264.2.2.1 = true := by decide +kernel
theorem aw_264 : af_wfK ak_264.2.1 ak_264.2.2.1 ak_264.2.2.2.2 ag_264.2.2.2.2.2.2.1 = true := by decide +kernel
theorem ah_264 : af_Holds aw_Sh 5 ak_264 := af_soundG (G := ag_264) (K := ak_264) (d := 4) pz_3 rfl rfl rfl rfl aw_264 ac_264 (af_HC ah_258 (by decide) (af_HC ah_262 (by decide) (af_HC ah_9 (by decide) (af_HC ah_11 (by decide) (af_HC ah_257 (by decide) (af_HC ah_263 (by decide) af_HN))))))
def ag_265 : af_G := ((0, 3, (some .boolean), mc_2), aw_Sh, [ak_264, ak_258, ak_262, ak_11, ak_46, ak_12, ak_263], 0, ak_265.2.2.2.1, ak_265.2.2.2.2, [], [], [])
set_option maxRecDepth 1000000 in
theorem ac_265 : af_meth 50 ag_265 ak_265.2.2.1 = true := by decide +kernel
theorem aw_265 : af_wfK ak_265.2.1 ak_265.2.2.1 ak_265.2.2.2.2 ag_265.2.2.2.2.2.2.1 = true := by decide +kernel
theorem ah_265 : af_Holds aw_Sh 6 ak_265 := af_soundG (G := ag_265) (K := ak_265) (d := 5) pz_2 rfl rfl rfl rfl aw_265 ac_265 (af_HC ah_264 (by decide) (af_HC ah_258 (by decide) (af_HC ah_262 (by decide) (af_HC ah_11 (by decide) (af_HC ah_46 (by decide) (af_HC ah_12 (by decide) (af_HC ah_263 (by decide) af_HN)))))))
def ag_266 : af_G := ((0, 2, (some .boolean), mc_1), aw_Sh, [ak_265, ak_10, ak_93], 0, ak_266.2.2.2.1, ak_266.2.2.2.2, [(17, (2, [(0, .inr (.inl 28)), (1, .inl (0, [0]))], [], [((1, 3), (400, [])), ((1, 5), (0, [1]))], ([(0, 0, 41), (1, 0, 4)], [], [])), [(1, 0, (0, [])), (2147483647, 1, (0, [0])), (0, 0, (0, []))])], [], [])
set_option maxRecDepth 1000000 in
theorem ac_266 : af_meth 23 ag_266 ak_266.2.2.1 = true := by decide +kernel
theorem aw_266 : af_wfK ak_266.2.1 ak_266.2.2.1 ak_266.2.2.2.2 ag_266.2.2.2.2.2.2.1 = true := by decide +kernel
theorem ah_266 : af_Holds aw_Sh 7 ak_266 := af_soundG (G := ag_266) (K := ak_266) (d := 6) pz_1 rfl rfl rfl rfl aw_266 ac_266 (af_HC ah_265 (by decide) (af_HC ah_10 (by decide) (af_HC ah_93 (by decide) af_HN)))
def ag_267 : af_G := ((10, 2, (some .int), mc_159), aw_Sh, [], 1, ak_267.2.2.2.1, ak_267.2.2.2.2, [], [], [])
set_option maxRecDepth 1000000 in
theorem ac_267 : af_meth 17 ag_267 ak_267.2.2.1 = true := by decide +kernel
theorem aw_267 : af_wfK ak_267.2.1 ak_267.2.2.1 ak_267.2.2.2.2 ag_267.2.2.2.2.2.2.1 = true := by decide +kernel
theorem ah_267 : af_Holds aw_Sh 1 ak_267 := af_soundG (G := ag_267) (K := ak_267) (d := 0) pz_159 rfl rfl rfl rfl aw_267 ac_267 af_HN
def ag_268 : af_G := ((10, 2, (some .int), mc_159), aw_Sh, [], 1, ak_268.2.2.2.1, ak_268.2.2.2.2, [], [], [])
set_option maxRecDepth 1000000 in
theorem ac_268 : af_meth 17 ag_268 ak_268.2.2.1 = true := by decide +kernel
theorem aw_268 : af_wfK ak_268.2.1 ak_268.2.2.1 ak_268.2.2.2.2 ag_268.2.2.2.2.2.2.1 = true := by decide +kernel
theorem ah_268 : af_Holds aw_Sh 1 ak_268 := af_soundG (G := ag_268) (K := ak_268) (d := 0) pz_159 rfl rfl rfl rfl aw_268 ac_268 af_HN
def ag_269 : af_G := ((10, 2, (some .int), mc_159), aw_Sh, [], 1, ak_269.2.2.2.1, ak_269.2.2.2.2, [], [], [])
set_option maxRecDepth 1000000 in
theorem ac_269 : af_meth 17 ag_269 ak_269.2.2.1 = true := by decide +kernel
theorem aw_269 : af_wfK ak_269.2.1 ak_269.2.2.1 ak_269.2.2.2.2 ag_269.2.2.2.2.2.2.1 = true := by decide +kernel
theorem ah_269 : af_Holds aw_Sh 1 ak_269 := af_soundG (G := ag_269) (K := ak_269) (d := 0) pz_159 rfl rfl rfl rfl aw_269 ac_269 af_HN
def ag_270 : af_G := ((10, 3, none, mc_160), aw_Sh, [], 2, ak_270.2.2.2.1, ak_270.2.2.2.2, [], [], [])
set_option maxRecDepth 1000000 in
theorem ac_270 : af_meth 17 ag_270 ak_270.2.2.1 = true := by decide +kernel
theorem aw_270 : af_wfK ak_270.2.1 ak_270.2.2.1 ak_270.2.2.2.2 ag_270.2.2.2.2.2.2.1 = true := by decide +kernel
theorem ah_270 : af_Holds aw_Sh 1 ak_270 := af_soundG (G := ag_270) (K := ak_270) (d := 0) pz_160 rfl rfl rfl rfl aw_270 ac_270 af_HN
def ag_271 : af_G := ((10, 8, (some .int), mc_158), aw_Sh, [ak_132, ak_150, ak_154, ak_164, ak_135, ak_267, ak_268, ak_269, ak_270], 0, ak_271.2.2.2.1, ak_271.2.2.2.2, [(7, (3, [(0, .inr (.inl 0)), (1, .inr (.inl 11)), (2, .inl (0, [0])), (3, .inl (0, [1])), (4, .inl (0, [2]))], [], [], ([(0, (-1), 2147483646), (1, (-2147483648), 2147483647), (2, 0, 2147483647)], [], [])), [(1, 0, (0, [])), (2147483647, 1, (0, [2])), (0, 0, (0, []))])], [], [])
set_option maxRecDepth 1000000 in
theorem ac_271 : af_meth 53 ag_271 ak_271.2.2.1 = true := by decide +kernel
theorem aw_271 : af_wfK ak_271.2.1 ak_271.2.2.1 ak_271.2.2.2.2 ag_271.2.2.2.2.2.2.1 = true := by decide +kernel
theorem ah_271 : af_Holds aw_Sh 6 ak_271 := af_soundG (G := ag_271) (K := ak_271) (d := 5) pz_158 rfl rfl rfl rfl aw_271 ac_271 (af_HC ah_132 (by decide) (af_HC ah_150 (by decide) (af_HC ah_154 (by decide) (af_HC ah_164 (by decide) (af_HC ah_135 (by decide) (af_HC ah_267 (by decide) (af_HC ah_268 (by decide) (af_HC ah_269 (by decide) (af_HC ah_270 (by decide) af_HN)))))))))
def ag_272 : af_G := ((4, 3, (some .int), mc_62), aw_Sh, [ak_213, ak_101], 0, ak_272.2.2.2.1, ak_272.2.2.2.2, [(4, (2, [(0, .inr (.inl 13)), (1, .inl (0, [0])), (2, .inl (0, [1]))], [], [], ([(0, (-2147483648), 2147483647), (1, 0, 6)], [], [])), [(1, 0, (0, [])), (2147483647, 1, (0, [1])), (0, 0, (0, []))])], [], [])
set_option maxRecDepth 1000000 in
theorem ac_272 : af_meth 24 ag_272 ak_272.2.2.1 = true := by decide +kernel
theorem aw_272 : af_wfK ak_272.2.1 ak_272.2.2.1 ak_272.2.2.2.2 ag_272.2.2.2.2.2.2.1 = true := by decide +kernel
theorem ah_272 : af_Holds aw_Sh 4 ak_272 := af_soundG (G := ag_272) (K := ak_272) (d := 3) pz_62 rfl rfl rfl rfl aw_272 ac_272 (af_HC ah_213 (by decide) (af_HC ah_101 (by decide) af_HN))
def ag_273 : af_G := ((10, 8, (some .int), mc_158), aw_Sh, [ak_207, ak_217, ak_223, ak_226, ak_272, ak_267, ak_268, ak_269, ak_270], 0, ak_273.2.2.2.1, ak_273.2.2.2.2, [(7, (3, [(0, .inr (.inl 0)), (1, .inr (.inl 13)), (2, .inl (0, [0])), (3, .inl (0, [1])), (4, .inl (0, [2]))], [], [], ([(0, (-1), 2147483646), (1, (-2147483648), 2147483647), (2, 0, 2147483647)], [], [])), [(1, 0, (0, [])), (2147483647, 1, (0, [2])), (0, 0, (0, []))])], [], [])
set_option maxRecDepth 1000000 in
theorem ac_273 : af_meth 53 ag_273 ak_273.2.2.1 = true := by decide +kernel
theorem aw_273 : af_wfK ak_273.2.1 ak_273.2.2.1 ak_273.2.2.2.2 ag_273.2.2.2.2.2.2.1 = true := by decide +kernel
theorem ah_273 : af_Holds aw_Sh 6 ak_273 := af_soundG (G := ag_273) (K := ak_273) (d := 5) pz_158 rfl rfl rfl rfl aw_273 ac_273 (af_HC ah_207 (by decide) (af_HC ah_217 (by decide) (af_HC ah_223 (by decide) (af_HC ah_226 (by decide) (af_HC ah_272 (by decide) (af_HC ah_267 (by decide) (af_HC ah_268 (by decide) (af_HC ah_269 (by decide) (af_HC ah_270 (by decide) af_HN)))))))))
def ag_274 : af_G := ((10, 3, (some .int), mc_145), aw_Sh, [ak_266, ak_205, ak_151, ak_271, ak_273], 1, ak_274.2.2.2.1, ak_274.2.2.2.2, [], [], [])
set_option maxRecDepth 1000000 in
theorem ac_274 : af_meth 35 ag_274 ak_274.2.2.1 = true := by decide +kernel
theorem aw_274 : af_wfK ak_274.2.1 ak_274.2.2.1 ak_274.2.2.2.2 ag_274.2.2.2.2.2.2.1 = true := by decide +kernel
theorem ah_274 : af_Holds aw_Sh 8 ak_274 := af_soundG (G := ag_274) (K := ak_274) (d := 7) pz_145 rfl rfl rfl rfl aw_274 ac_274 (af_HC ah_266 (by decide) (af_HC ah_205 (by decide) (af_HC ah_151 (by decide) (af_HC ah_271 (by decide) (af_HC ah_273 (by decide) af_HN)))))
def ag_275 : af_G := ((10, 2, (some .int), mc_159), aw_Sh, [], 1, ak_275.2.2.2.1, ak_275.2.2.2.2, [], [], [])
set_option maxRecDepth 1000000 in
theorem ac_275 : af_meth 17 ag_275 ak_275.2.2.1 = true := by decide +kernel
theorem aw_275 : af_wfK ak_275.2.1 ak_275.2.2.1 ak_275.2.2.2.2 ag_275.2.2.2.2.2.2.1 = true := by decide +kernel
theorem ah_275 : af_Holds aw_Sh 1 ak_275 := af_soundG (G := ag_275) (K := ak_275) (d := 0) pz_159 rfl rfl rfl rfl aw_275 ac_275 af_HN
def ag_276 : af_G := ((10, 2, (some .int), mc_146), aw_Sh, [ak_275], 1, ak_276.2.2.2.1, ak_276.2.2.2.2, [], [], [])
set_option maxRecDepth 1000000 in
theorem ac_276 : af_meth 22 ag_276 ak_276.2.2.1 = true := by decide +kernel
theorem aw_276 : af_wfK ak_276.2.1 ak_276.2.2.1 ak_276.2.2.2.2 ag_276.2.2.2.2.2.2.1 = true := by decide +kernel
theorem ah_276 : af_Holds aw_Sh 2 ak_276 := af_soundG (G := ag_276) (K := ak_276) (d := 1) pz_146 rfl rfl rfl rfl aw_276 ac_276 (af_HC ah_275 (by decide) af_HN)
def ag_277 : af_G := ((7, 1, none, mc_80), aw_Sh, [], 0, ak_277.2.2.2.1, ak_277.2.2.2.2, [], [], [])
set_option maxRecDepth 1000000 in
theorem ac_277 : af_meth 10 ag_277 ak_277.2.2.1 = true := by decide +kernel
theorem aw_277 : af_wfK ak_277.2.1 ak_277.2.2.1 ak_277.2.2.2.2 ag_277.2.2.2.2.2.2.1 = true := by decide +kernel
theorem ah_277 : af_Holds aw_Sh 1 ak_277 := af_soundG (G := ag_277) (K := ak_277) (d := 0) pz_80 rfl rfl rfl rfl aw_277 ac_277 af_HN
def ag_278 : af_G := ((8, 4, (some .boolean), mc_90), aw_Sh, [ak_11, ak_34], 0, ak_278.2.2.2.1, ak_278.2.2.2.2, [], [], [])
set_option maxRecDepth 1000000 in
theorem ac_278 : af_meth 32 ag_278 ak_278.2.2.1 = true := by decide +kernel
theorem aw_278 : af_wfK ak_278.2.1 ak_278.2.2.1 ak_278.2.2.2.2 ag_278.2.2.2.2.2.2.1 = true := by decide +kernel
theorem ah_278 : af_Holds aw_Sh 2 ak_278 := af_soundG (G := ag_278) (K := ak_278) (d := 1) pz_90 rfl rfl rfl rfl aw_278 ac_278 (af_HC ah_11 (by decide) (af_HC ah_34 (by decide) af_HN))
def ag_279 : af_G := ((8, 4, (some .boolean), mc_89), aw_Sh, [ak_278], 0, ak_279.2.2.2.1, ak_279.2.2.2.2, [(2, (0, [(0, .inr (.inl 27)), (1, .inl (9, [])), (2, .inl (0, []))], [], [], ([], [], [])), [(1, 0, (0, [])), (2147483647, 1, (9, [])), (0, 0, (0, []))])], [], [])
set_option maxRecDepth 1000000 in
theorem ac_279 : af_meth 15 ag_279 ak_279.2.2.1 = true := by decide +kernel
theorem aw_279 : af_wfK ak_279.2.1 ak_279.2.2.1 ak_279.2.2.2.2 ag_279.2.2.2.2.2.2.1 = true := by decide +kernel
theorem ah_279 : af_Holds aw_Sh 3 ak_279 := af_soundG (G := ag_279) (K := ak_279) (d := 2) pz_89 rfl rfl rfl rfl aw_279 ac_279 (af_HC ah_278 (by decide) af_HN)
def ag_280 : af_G := ((10, 3, none, mc_160), aw_Sh, [], 2, ak_280.2.2.2.1, ak_280.2.2.2.2, [], [], [])
set_option maxRecDepth 1000000 in
theorem ac_280 : af_meth 17 ag_280 ak_280.2.2.1 = true := by decide +kernel
theorem aw_280 : af_wfK ak_280.2.1 ak_280.2.2.1 ak_280.2.2.2.2 ag_280.2.2.2.2.2.2.1 = true := by decide +kernel
theorem ah_280 : af_Holds aw_Sh 1 ak_280 := af_soundG (G := ag_280) (K := ak_280) (d := 0) pz_160 rfl rfl rfl rfl aw_280 ac_280 af_HN
def ag_281 : af_G := ((10, 3, none, mc_160), aw_Sh, [], 2, ak_281.2.2.2.1, ak_281.2.2.2.2, [], [], [])
set_option maxRecDepth 1000000 in
theorem ac_281 : af_meth 17 ag_281 ak_281.2.2.1 = true := by decide +kernel
theorem aw_281 : af_wfK ak_281.2.1 ak_281.2.2.1 ak_281.2.2.2.2 ag_281.2.2.2.2.2.2.1 = true := by decide +kernel
theorem ah_281 : af_Holds aw_Sh 1 ak_281 := af_soundG (G := ag_281) (K := ak_281) (d := 0) pz_160 rfl rfl rfl rfl aw_281 ac_281 af_HN
def ag_282 : af_G := ((10, 3, none, mc_160), aw_Sh, [], 2, ak_282.2.2.2.1, ak_282.2.2.2.2, [], [], [])
set_option maxRecDepth 1000000 in
theorem ac_282 : af_meth 17 ag_282 ak_282.2.2.1 = true := by decide +kernel
theorem aw_282 : af_wfK ak_282.2.1 ak_282.2.2.1 ak_282.2.2.2.2 ag_282.2.2.2.2.2.2.1 = true := by decide +kernel
theorem ah_282 : af_Holds aw_Sh 1 ak_282 := af_soundG (G := ag_282) (K := ak_282) (d := 0) pz_160 rfl rfl rfl rfl aw_282 ac_282 af_HN
def ag_283 : af_G := ((7, 4, none, mc_82), aw_Sh, [ak_280, ak_281, ak_282], 3, ak_283.2.2.2.1, ak_283.2.2.2.2, [], [], [])
set_option maxRecDepth 1000000 in
theorem ac_283 : af_meth 31 ag_283 ak_283.2.2.1 = true := by decide +kernel
theorem aw_283 : af_wfK ak_283.2.1 ak_283.2.2.1 ak_283.2.2.2.2 ag_283.2.2.2.2.2.2.1 = true := by decide +kernel
theorem ah_283 : af_Holds aw_Sh 2 ak_283 := af_soundG (G := ag_283) (K := ak_283) (d := 1) pz_82 rfl rfl rfl rfl aw_283 ac_283 (af_HC ah_280 (by decide) (af_HC ah_281 (by decide) (af_HC ah_282 (by decide) af_HN)))
def ag_284 : af_G := ((8, 3, (some .boolean), mc_93), aw_Sh, [ak_283, ak_9, ak_11, ak_34], 1, ak_284.2.2.2.1, ak_284.2.2.2.2, [], [], [])
set_option maxRecDepth 1000000 in
theorem ac_284 : af_meth 46 ag_284 ak_284.2.2.1 = true := by decide +kernel
theorem aw_284 : af_wfK ak_284.2.1 ak_284.2.2.1 ak_284.2.2.2.2 ag_284.2.2.2.2.2.2.1 = true := by decide +kernel
theorem ah_284 : af_Holds aw_Sh 4 ak_284 := af_soundG (G := ag_284) (K := ak_284) (d := 3) pz_93 rfl rfl rfl rfl aw_284 ac_284 (af_HC ah_283 (by decide) (af_HC ah_9 (by decide) (af_HC ah_11 (by decide) (af_HC ah_34 (by decide) af_HN))))
def ag_285 : af_G := ((8, 4, (some .boolean), mc_92), aw_Sh, [ak_283, ak_9, ak_257], 2, ak_285.2.2.2.1, ak_285.2.2.2.2, [], [], [])
set_option maxRecDepth 1000000 in
theorem ac_285 : af_meth 27 ag_285 ak_285.2.2.1 = true := by decide +kernel
theorem aw_285 : af_wfK ak_285.2.1 ak_285.2.2.1 ak_285.2.2.2.2 ag_285.2.2.2.2.2.2.1 = true := by decide +kernel
theorem ah_285 : af_Holds aw_Sh 4 ak_285 := af_soundG (G := ag_285) (K := ak_285) (d := 3) pz_92 rfl rfl rfl rfl aw_285 ac_285 (af_HC ah_283 (by decide) (af_HC ah_9 (by decide) (af_HC ah_257 (by decide) af_HN)))
def ag_286 : af_G := ((8, 2, (some .boolean), mc_91), aw_Sh, [ak_278], 0, ak_286.2.2.2.1, ak_286.2.2.2.2, [], [], [])
set_option maxRecDepth 1000000 in
theorem ac_286 : af_meth 14 ag_286 ak_286.2.2.1 = true := by decide +kernel
theorem aw_286 : af_wfK ak_286.2.1 ak_286.2.2.1 ak_286.2.2.2.2 ag_286.2.2.2.2.2.2.1 = true := by decide +kernel
theorem ah_286 : af_Holds aw_Sh 3 ak_286 := af_soundG (G := ag_286) (K := ak_286) (d := 2) pz_91 rfl rfl rfl rfl aw_286 ac_286 (af_HC ah_278 (by decide) af_HN)
def ag_287 : af_G := ((8, 4, (some .boolean), mc_90), aw_Sh, [ak_283, ak_279, ak_286, ak_285, ak_284, ak_9, ak_11, ak_34], 0, ak_287.2.2.2.1, ak_287.2.2.2.2, [], [], [])
set_option maxRecDepth 1000000 in
theorem ac_287 : af_meth 48 ag_287 ak_287.2.2.1 = true := by decide +kernel
theorem aw_287 : af_wfK ak_287.2.1 ak_287.2.2.1 ak_287.2.2.2.2 ag_287.2.2.2.2.2.2.1 = true := by decide +kernel
theorem ah_287 : af_Holds aw_Sh 5 ak_287 := af_soundG (G := ag_287) (K := ak_287) (d := 4) pz_90 rfl rfl rfl rfl aw_287 ac_287 (af_HC ah_283 (by decide) (af_HC ah_279 (by decide) (af_HC ah_286 (by decide) (af_HC ah_285 (by decide) (af_HC ah_284 (by decide) (af_HC ah_9 (by decide) (af_HC ah_11 (by decide) (af_HC ah_34 (by decide) af_HN))))))))
def ag_288 : af_G := ((8, 4, (some .boolean), mc_89), aw_Sh, [ak_283, ak_287, ak_9], 0, ak_288.2.2.2.1, ak_288.2.2.2.2, [(2, (1, [(0, .inr (.inl 27)), (1, .inl (8, [])), (2, .inl (0, [0]))], [], [], ([(0, 0, 2147483647)], [], [])), [(2, 0, (0, [])), (2147483647, 1, (0, [0])), (0, 0, (0, [])), (1000, 0, (0, [])), (0, 0, (0, [])), (0, 0, (0, []))]),
  (20, (4, [(0, .inr (.inl 27)), (1, .inl (8, [])), (2, .inl (0, [0])), (3, .inl (0, [1]))], [], [((1, 5), (0, [2])), ((27, 3), (0, [3]))], ([(0, 0, 2147483646), (1, 0, 20), (2, 0, 4), (3, (-2147483647), 20)], [], [])), [(2, 0, (0, [])), (2147483647, 1, (0, [0])), (0, 0, (0, [])), (1, 0, (0, [])), (2147483647, 1, (0, [1])), (0, 0, (0, []))])], [], [])
set_option maxRecDepth 1000000 in
theorem ac_288 : af_meth 32 ag_288 ak_288.2.2.1 = true := by decide +kernel
theorem aw_288 : af_wfK ak_288.2.1 ak_288.2.2.1 ak_288.2.2.2.2 ag_288.2.2.2.2.2.2.1 = true := by decide +kernel
theorem ah_288 : af_Holds aw_Sh 6 ak_288 := af_soundG (G := ag_288) (K := ak_288) (d := 5) pz_89 rfl rfl rfl rfl aw_288 ac_288 (af_HC ah_283 (by decide) (af_HC ah_287 (by decide) (af_HC ah_9 (by decide) af_HN)))
def ag_289 : af_G := ((8, 2, (some .boolean), mc_91), aw_Sh, [ak_283, ak_287], 0, ak_289.2.2.2.1, ak_289.2.2.2.2, [], [], [])
set_option maxRecDepth 1000000 in
theorem ac_289 : af_meth 20 ag_289 ak_289.2.2.1 = true := by decide +kernel
theorem aw_289 : af_wfK ak_289.2.1 ak_289.2.2.1 ak_289.2.2.2.2 ag_289.2.2.2.2.2.2.1 = true := by decide +kernel
theorem ah_289 : af_Holds aw_Sh 6 ak_289 := af_soundG (G := ag_289) (K := ak_289) (d := 5) pz_91 rfl rfl rfl rfl aw_289 ac_289 (af_HC ah_283 (by decide) (af_HC ah_287 (by decide) af_HN))
def ag_290 : af_G := ((8, 4, (some .boolean), mc_90), aw_Sh, [ak_283, ak_288, ak_289, ak_285, ak_284, ak_9, ak_11, ak_34, ak_93], 0, ak_290.2.2.2.1, ak_290.2.2.2.2, [], [], [])
set_option maxRecDepth 1000000 in
theorem ac_290 : af_meth 49 ag_290 ak_290.2.2.1 = true := by decide +kernel
theorem aw_290 : af_wfK ak_290.2.1 ak_290.2.2.1 ak_290.2.2.2.2 ag_290.2.2.2.2.2.2.1 = true := by decide +kernel
theorem ah_290 : af_Holds aw_Sh 7 ak_290 := af_soundG (G := ag_290) (K := ak_290) (d := 6) pz_90 rfl rfl rfl rfl aw_290 ac_290 (af_HC ah_283 (by decide) (af_HC ah_288 (by decide) (af_HC ah_289 (by decide) (af_HC ah_285 (by decide) (af_HC ah_284 (by decide) (af_HC ah_9 (by decide) (af_HC ah_11 (by decide) (af_HC ah_34 (by decide) (af_HC ah_93 (by decide) af_HN)))))))))
def ag_291 : af_G := ((8, 4, (some .boolean), mc_89), aw_Sh, [ak_283, ak_290, ak_9], 0, ak_291.2.2.2.1, ak_291.2.2.2.2, [(2, (1, [(0, .inr (.inl 27)), (1, .inl (7, [])), (2, .inl (0, [0]))], [], [], ([(0, 0, 2147483647)], [], [])), [(2, 0, (0, [])), (2147483647, 1, (0, [0])), (0, 0, (0, [])), (1000, 0, (0, [])), (0, 0, (0, [])), (0, 0, (0, []))]),
  (20, (4, [(0, .inr (.inl 27)), (1, .inl (7, [])), (2, .inl (0, [0])), (3, .inl (0, [1]))], [], [((1, 5), (0, [2])), ((27, 3), (0, [3]))], ([(0, 0, 2147483646), (1, 0, 20), (2, 0, 4), (3, (-2147483647), 20)], [], [])), [(2, 0, (0, [])), (2147483647, 1, (0, [0])), (0, 0, (0, [])), (1, 0, (0, [])), (2147483647, 1, (0, [1])), (0, 0, (0, []))])], [], [])
set_option maxRecDepth 1000000 in
theorem ac_291 : af_meth 32 ag_291 ak_291.2.2.1 = true := by decide +kernel
theorem aw_291 : af_wfK ak_291.2.1 ak_291.2.2.1 ak_291.2.2.2.2 ag_291.2.2.2.2.2.2.1 = true := by decide +kernel
theorem ah_291 : af_Holds aw_Sh 8 ak_291 := af_soundG (G := ag_291) (K := ak_291) (d := 7) pz_89 rfl rfl rfl rfl aw_291 ac_291 (af_HC ah_283 (by decide) (af_HC ah_290 (by decide) (af_HC ah_9 (by decide) af_HN)))
def ag_292 : af_G := ((8, 2, (some .boolean), mc_91), aw_Sh, [ak_283, ak_290], 0, ak_292.2.2.2.1, ak_292.2.2.2.2, [], [], [])
set_option maxRecDepth 1000000 in
theorem ac_292 : af_meth 20 ag_292 ak_292.2.2.1 = true := by decide +kernel
theorem aw_292 : af_wfK ak_292.2.1 ak_292.2.2.1 ak_292.2.2.2.2 ag_292.2.2.2.2.2.2.1 = true := by decide +kernel
theorem ah_292 : af_Holds aw_Sh 8 ak_292 := af_soundG (G := ag_292) (K := ak_292) (d := 7) pz_91 rfl rfl rfl rfl aw_292 ac_292 (af_HC ah_283 (by decide) (af_HC ah_290 (by decide) af_HN))
def ag_293 : af_G := ((8, 4, (some .boolean), mc_90), aw_Sh, [ak_283, ak_291, ak_292, ak_285, ak_284, ak_9, ak_11, ak_34, ak_93], 0, ak_293.2.2.2.1, ak_293.2.2.2.2, [], [], [])
set_option maxRecDepth 1000000 in
theorem ac_293 : af_meth 49 ag_293 ak_293.2.2.1 = true := by decide +kernel
theorem aw_293 : af_wfK ak_293.2.1 ak_293.2.2.1 ak_293.2.2.2.2 ag_293.2.2.2.2.2.2.1 = true := by decide +kernel
theorem ah_293 : af_Holds aw_Sh 9 ak_293 := af_soundG (G := ag_293) (K := ak_293) (d := 8) pz_90 rfl rfl rfl rfl aw_293 ac_293 (af_HC ah_283 (by decide) (af_HC ah_291 (by decide) (af_HC ah_292 (by decide) (af_HC ah_285 (by decide) (af_HC ah_284 (by decide) (af_HC ah_9 (by decide) (af_HC ah_11 (by decide) (af_HC ah_34 (by decide) (af_HC ah_93 (by decide) af_HN)))))))))
def ag_294 : af_G := ((8, 4, (some .boolean), mc_89), aw_Sh, [ak_283, ak_293, ak_9], 0, ak_294.2.2.2.1, ak_294.2.2.2.2, [(2, (1, [(0, .inr (.inl 27)), (1, .inl (6, [])), (2, .inl (0, [0]))], [], [], ([(0, 0, 2147483647)], [], [])), [(2, 0, (0, [])), (2147483647, 1, (0, [0])), (0, 0, (0, [])), (1000, 0, (0, [])), (0, 0, (0, [])), (0, 0, (0, []))]),
  (20, (4, [(0, .inr (.inl 27)), (1, .inl (6, [])), (2, .inl (0, [0])), (3, .inl (0, [1]))], [], [((1, 5), (0, [2])), ((27, 3), (0, [3]))], ([(0, 0, 2147483646), (1, 0, 20), (2, 0, 4), (3, (-2147483647), 20)], [], [])), [(2, 0, (0, [])), (2147483647, 1, (0, [0])), (0, 0, (0, [])), (1, 0, (0, [])), (2147483647, 1, (0, [1])), (0, 0, (0, []))])], [], [])
set_option maxRecDepth 1000000 in
theorem ac_294 : af_meth 32 ag_294 ak_294.2.2.1 = true := by decide +kernel
theorem aw_294 : af_wfK ak_294.2.1 ak_294.2.2.1 ak_294.2.2.2.2 ag_294.2.2.2.2.2.2.1 = true := by decide +kernel
theorem ah_294 : af_Holds aw_Sh 10 ak_294 := af_soundG (G := ag_294) (K := ak_294) (d := 9) pz_89 rfl rfl rfl rfl aw_294 ac_294 (af_HC ah_283 (by decide) (af_HC ah_293 (by decide) (af_HC ah_9 (by decide) af_HN)))
def ag_295 : af_G := ((8, 2, (some .boolean), mc_91), aw_Sh, [ak_283, ak_293], 0, ak_295.2.2.2.1, ak_295.2.2.2.2, [], [], [])
set_option maxRecDepth 1000000 in
theorem ac_295 : af_meth 20 ag_295 ak_295.2.2.1 = true := by decide +kernel
theorem aw_295 : af_wfK ak_295.2.1 ak_295.2.2.1 ak_295.2.2.2.2 ag_295.2.2.2.2.2.2.1 = true := by decide +kernel
theorem ah_295 : af_Holds aw_Sh 10 ak_295 := af_soundG (G := ag_295) (K := ak_295) (d := 9) pz_91 rfl rfl rfl rfl aw_295 ac_295 (af_HC ah_283 (by decide) (af_HC ah_293 (by decide) af_HN))
def ag_296 : af_G := ((8, 4, (some .boolean), mc_90), aw_Sh, [ak_283, ak_294, ak_295, ak_285, ak_284, ak_9, ak_11, ak_34, ak_93], 0, ak_296.2.2.2.1, ak_296.2.2.2.2, [], [], [])
set_option maxRecDepth 1000000 in
theorem ac_296 : af_meth 49 ag_296 ak_296.2.2.1 = true := by decide +kernel
theorem aw_296 : af_wfK ak_296.2.1 ak_296.2.2.1 ak_296.2.2.2.2 ag_296.2.2.2.2.2.2.1 = true := by decide +kernel
theorem ah_296 : af_Holds aw_Sh 11 ak_296 := af_soundG (G := ag_296) (K := ak_296) (d := 10) pz_90 rfl rfl rfl rfl aw_296 ac_296 (af_HC ah_283 (by decide) (af_HC ah_294 (by decide) (af_HC ah_295 (by decide) (af_HC ah_285 (by decide) (af_HC ah_284 (by decide) (af_HC ah_9 (by decide) (af_HC ah_11 (by decide) (af_HC ah_34 (by decide) (af_HC ah_93 (by decide) af_HN)))))))))
def ag_297 : af_G := ((8, 4, (some .boolean), mc_89), aw_Sh, [ak_283, ak_296, ak_9], 0, ak_297.2.2.2.1, ak_297.2.2.2.2, [(2, (1, [(0, .inr (.inl 27)), (1, .inl (5, [])), (2, .inl (0, [0]))], [], [], ([(0, 0, 2147483647)], [], [])), [(2, 0, (0, [])), (2147483647, 1, (0, [0])), (0, 0, (0, [])), (1000, 0, (0, [])), (0, 0, (0, [])), (0, 0, (0, []))]),
  (20, (4, [(0, .inr (.inl 27)), (1, .inl (5, [])), (2, .inl (0, [0])), (3, .inl (0, [1]))], [], [((1, 5), (0, [2])), ((27, 3), (0, [3]))], ([(0, 0, 2147483646), (1, 0, 20), (2, 0, 4), (3, (-2147483647), 20)], [], [])), [(2, 0, (0, [])), (2147483647, 1, (0, [0])), (0, 0, (0, [])), (1, 0, (0, [])), (2147483647, 1, (0, [1])), (0, 0, (0, []))])], [], [])
set_option maxRecDepth 1000000 in
theorem ac_297 : af_meth 32 ag_297 ak_297.2.2.1 = true := by decide +kernel
theorem aw_297 : af_wfK ak_297.2.1 ak_297.2.2.1 ak_297.2.2.2.2 ag_297.2.2.2.2.2.2.1 = true := by decide +kernel
theorem ah_297 : af_Holds aw_Sh 12 ak_297 := af_soundG (G := ag_297) (K := ak_297) (d := 11) pz_89 rfl rfl rfl rfl aw_297 ac_297 (af_HC ah_283 (by decide) (af_HC ah_296 (by decide) (af_HC ah_9 (by decide) af_HN)))
def ag_298 : af_G := ((8, 2, (some .boolean), mc_91), aw_Sh, [ak_283, ak_296], 0, ak_298.2.2.2.1, ak_298.2.2.2.2, [], [], [])
set_option maxRecDepth 1000000 in
theorem ac_298 : af_meth 20 ag_298 ak_298.2.2.1 = true := by decide +kernel
theorem aw_298 : af_wfK ak_298.2.1 ak_298.2.2.1 ak_298.2.2.2.2 ag_298.2.2.2.2.2.2.1 = true := by decide +kernel
theorem ah_298 : af_Holds aw_Sh 12 ak_298 := af_soundG (G := ag_298) (K := ak_298) (d := 11) pz_91 rfl rfl rfl rfl aw_298 ac_298 (af_HC ah_283 (by decide) (af_HC ah_296 (by decide) af_HN))
def ag_299 : af_G := ((8, 4, (some .boolean), mc_90), aw_Sh, [ak_283, ak_297, ak_298, ak_285, ak_284, ak_9, ak_11, ak_34, ak_93], 0, ak_299.2.2.2.1, ak_299.2.2.2.2, [], [], [])
set_option maxRecDepth 1000000 in
theorem ac_299 : af_meth 49 ag_299 ak_299.2.2.1 = true := by decide +kernel
theorem aw_299 : af_wfK ak_299.2.1 ak_299.2.2.1 ak_299.2.2.2.2 ag_299.2.2.2.2.2.2.1 = true := by decide +kernel
theorem ah_299 : af_Holds aw_Sh 13 ak_299 := af_soundG (G := ag_299) (K := ak_299) (d := 12) pz_90 rfl rfl rfl rfl aw_299 ac_299 (af_HC ah_283 (by decide) (af_HC ah_297 (by decide) (af_HC ah_298 (by decide) (af_HC ah_285 (by decide) (af_HC ah_284 (by decide) (af_HC ah_9 (by decide) (af_HC ah_11 (by decide) (af_HC ah_34 (by decide) (af_HC ah_93 (by decide) af_HN)))))))))
def ag_300 : af_G := ((8, 4, (some .boolean), mc_89), aw_Sh, [ak_283, ak_299, ak_9], 0, ak_300.2.2.2.1, ak_300.2.2.2.2, [(2, (1, [(0, .inr (.inl 27)), (1, .inl (4, [])), (2, .inl (0, [0]))], [], [], ([(0, 0, 2147483647)], [], [])), [(2, 0, (0, [])), (2147483647, 1, (0, [0])), (0, 0, (0, [])), (1000, 0, (0, [])), (0, 0, (0, [])), (0, 0, (0, []))]),
  (20, (4, [(0, .inr (.inl 27)), (1, .inl (4, [])), (2, .inl (0, [0])), (3, .inl (0, [1]))], [], [((1, 5), (0, [2])), ((27, 3), (0, [3]))], ([(0, 0, 2147483646), (1, 0, 20), (2, 0, 4), (3, (-2147483647), 20)], [], [])), [(2, 0, (0, [])), (2147483647, 1, (0, [0])), (0, 0, (0, [])), (1, 0, (0, [])), (2147483647, 1, (0, [1])), (0, 0, (0, []))])], [], [])
set_option maxRecDepth 1000000 in
theorem ac_300 : af_meth 32 ag_300 ak_300.2.2.1 = true := by decide +kernel
theorem aw_300 : af_wfK ak_300.2.1 ak_300.2.2.1 ak_300.2.2.2.2 ag_300.2.2.2.2.2.2.1 = true := by decide +kernel
theorem ah_300 : af_Holds aw_Sh 14 ak_300 := af_soundG (G := ag_300) (K := ak_300) (d := 13) pz_89 rfl rfl rfl rfl aw_300 ac_300 (af_HC ah_283 (by decide) (af_HC ah_299 (by decide) (af_HC ah_9 (by decide) af_HN)))
def ag_301 : af_G := ((8, 2, (some .boolean), mc_91), aw_Sh, [ak_283, ak_299], 0, ak_301.2.2.2.1, ak_301.2.2.2.2, [], [], [])
set_option maxRecDepth 1000000 in
theorem ac_301 : af_meth 20 ag_301 ak_301.2.2.1 = true := by decide +kernel
theorem aw_301 : af_wfK ak_301.2.1 ak_301.2.2.1 ak_301.2.2.2.2 ag_301.2.2.2.2.2.2.1 = true := by decide +kernel
theorem ah_301 : af_Holds aw_Sh 14 ak_301 := af_soundG (G := ag_301) (K := ak_301) (d := 13) pz_91 rfl rfl rfl rfl aw_301 ac_301 (af_HC ah_283 (by decide) (af_HC ah_299 (by decide) af_HN))
def ag_302 : af_G := ((8, 4, (some .boolean), mc_90), aw_Sh, [ak_283, ak_300, ak_301, ak_285, ak_284, ak_9, ak_11, ak_34, ak_93], 0, ak_302.2.2.2.1, ak_302.2.2.2.2, [], [], [])
set_option maxRecDepth 1000000 in
theorem ac_302 : af_meth 49 ag_302 ak_302.2.2.1 = true := by decide +kernel
theorem aw_302 : af_wfK ak_302.2.1 ak_302.2.2.1 ak_302.2.2.2.2 ag_302.2.2.2.2.2.2.1 = true := by decide +kernel
theorem ah_302 : af_Holds aw_Sh 15 ak_302 := af_soundG (G := ag_302) (K := ak_302) (d := 14) pz_90 rfl rfl rfl rfl aw_302 ac_302 (af_HC ah_283 (by decide) (af_HC ah_300 (by decide) (af_HC ah_301 (by decide) (af_HC ah_285 (by decide) (af_HC ah_284 (by decide) (af_HC ah_9 (by decide) (af_HC ah_11 (by decide) (af_HC ah_34 (by decide) (af_HC ah_93 (by decide) af_HN)))))))))
def ag_303 : af_G := ((8, 4, (some .boolean), mc_89), aw_Sh, [ak_283, ak_302, ak_9], 0, ak_303.2.2.2.1, ak_303.2.2.2.2, [(2, (1, [(0, .inr (.inl 27)), (1, .inl (3, [])), (2, .inl (0, [0]))], [], [], ([(0, 0, 2147483647)], [], [])), [(2, 0, (0, [])), (2147483647, 1, (0, [0])), (0, 0, (0, [])), (1000, 0, (0, [])), (0, 0, (0, [])), (0, 0, (0, []))]),
  (20, (4, [(0, .inr (.inl 27)), (1, .inl (3, [])), (2, .inl (0, [0])), (3, .inl (0, [1]))], [], [((1, 5), (0, [2])), ((27, 3), (0, [3]))], ([(0, 0, 2147483646), (1, 0, 20), (2, 0, 4), (3, (-2147483647), 20)], [], [])), [(2, 0, (0, [])), (2147483647, 1, (0, [0])), (0, 0, (0, [])), (1, 0, (0, [])), (2147483647, 1, (0, [1])), (0, 0, (0, []))])], [], [])
set_option maxRecDepth 1000000 in
theorem ac_303 : af_meth 32 ag_303 ak_303.2.2.1 = true := by decide +kernel
theorem aw_303 : af_wfK ak_303.2.1 ak_303.2.2.1 ak_303.2.2.2.2 ag_303.2.2.2.2.2.2.1 = true := by decide +kernel
theorem ah_303 : af_Holds aw_Sh 16 ak_303 := af_soundG (G := ag_303) (K := ak_303) (d := 15) pz_89 rfl rfl rfl rfl aw_303 ac_303 (af_HC ah_283 (by decide) (af_HC ah_302 (by decide) (af_HC ah_9 (by decide) af_HN)))
def ag_304 : af_G := ((8, 2, (some .boolean), mc_91), aw_Sh, [ak_283, ak_302], 0, ak_304.2.2.2.1, ak_304.2.2.2.2, [], [], [])
set_option maxRecDepth 1000000 in
theorem ac_304 : af_meth 20 ag_304 ak_304.2.2.1 = true := by decide +kernel
theorem aw_304 : af_wfK ak_304.2.1 ak_304.2.2.1 ak_304.2.2.2.2 ag_304.2.2.2.2.2.2.1 = true := by decide +kernel
theorem ah_304 : af_Holds aw_Sh 16 ak_304 := af_soundG (G := ag_304) (K := ak_304) (d := 15) pz_91 rfl rfl rfl rfl aw_304 ac_304 (af_HC ah_283 (by decide) (af_HC ah_302 (by decide) af_HN))
def ag_305 : af_G := ((8, 4, (some .boolean), mc_90), aw_Sh, [ak_283, ak_303, ak_304, ak_285, ak_284, ak_9, ak_11, ak_34, ak_93], 0, ak_305.2.2.2.1, ak_305.2.2.2.2, [], [], [])
set_option maxRecDepth 1000000 in
theorem ac_305 : af_meth 49 ag_305 ak_305.2.2.1 = true := by decide +kernel
theorem aw_305 : af_wfK ak_305.2.1 ak_305.2.2.1 ak_305.2.2.2.2 ag_305.2.2.2.2.2.2.1 = true := by decide +kernel
theorem ah_305 : af_Holds aw_Sh 17 ak_305 := af_soundG (G := ag_305) (K := ak_305) (d := 16) pz_90 rfl rfl rfl rfl aw_305 ac_305 (af_HC ah_283 (by decide) (af_HC ah_303 (by decide) (af_HC ah_304 (by decide) (af_HC ah_285 (by decide) (af_HC ah_284 (by decide) (af_HC ah_9 (by decide) (af_HC ah_11 (by decide) (af_HC ah_34 (by decide) (af_HC ah_93 (by decide) af_HN)))))))))
def ag_306 : af_G := ((8, 4, (some .boolean), mc_89), aw_Sh, [ak_283, ak_305, ak_9], 0, ak_306.2.2.2.1, ak_306.2.2.2.2, [(2, (1, [(0, .inr (.inl 27)), (1, .inl (2, [])), (2, .inl (0, [0]))], [], [], ([(0, 0, 2147483647)], [], [])), [(2, 0, (0, [])), (2147483647, 1, (0, [0])), (0, 0, (0, [])), (1000, 0, (0, [])), (0, 0, (0, [])), (0, 0, (0, []))]),
  (20, (4, [(0, .inr (.inl 27)), (1, .inl (2, [])), (2, .inl (0, [0])), (3, .inl (0, [1]))], [], [((1, 5), (0, [2])), ((27, 3), (0, [3]))], ([(0, 0, 2147483646), (1, 0, 20), (2, 0, 4), (3, (-2147483647), 20)], [], [])), [(2, 0, (0, [])), (2147483647, 1, (0, [0])), (0, 0, (0, [])), (1, 0, (0, [])), (2147483647, 1, (0, [1])), (0, 0, (0, []))])], [], [])
set_option maxRecDepth 1000000 in
theorem ac_306 : af_meth 32 ag_306 ak_306.2.2.1 = true := by decide +kernel
theorem aw_306 : af_wfK ak_306.2.1 ak_306.2.2.1 ak_306.2.2.2.2 ag_306.2.2.2.2.2.2.1 = true := by decide +kernel
theorem ah_306 : af_Holds aw_Sh 18 ak_306 := af_soundG (G := ag_306) (K := ak_306) (d := 17) pz_89 rfl rfl rfl rfl aw_306 ac_306 (af_HC ah_283 (by decide) (af_HC ah_305 (by decide) (af_HC ah_9 (by decide) af_HN)))
def ag_307 : af_G := ((8, 2, (some .boolean), mc_91), aw_Sh, [ak_283, ak_305], 0, ak_307.2.2.2.1, ak_307.2.2.2.2, [], [], [])
set_option maxRecDepth 1000000 in
theorem ac_307 : af_meth 20 ag_307 ak_307.2.2.1 = true := by decide +kernel
theorem aw_307 : af_wfK ak_307.2.1 ak_307.2.2.1 ak_307.2.2.2.2 ag_307.2.2.2.2.2.2.1 = true := by decide +kernel
theorem ah_307 : af_Holds aw_Sh 18 ak_307 := af_soundG (G := ag_307) (K := ak_307) (d := 17) pz_91 rfl rfl rfl rfl aw_307 ac_307 (af_HC ah_283 (by decide) (af_HC ah_305 (by decide) af_HN))
def ag_308 : af_G := ((8, 4, (some .boolean), mc_90), aw_Sh, [ak_283, ak_306, ak_307, ak_285, ak_284, ak_9, ak_11, ak_34, ak_93], 0, ak_308.2.2.2.1, ak_308.2.2.2.2, [], [], [])
set_option maxRecDepth 1000000 in
theorem ac_308 : af_meth 49 ag_308 ak_308.2.2.1 = true := by decide +kernel
theorem aw_308 : af_wfK ak_308.2.1 ak_308.2.2.1 ak_308.2.2.2.2 ag_308.2.2.2.2.2.2.1 = true := by decide +kernel
theorem ah_308 : af_Holds aw_Sh 19 ak_308 := af_soundG (G := ag_308) (K := ak_308) (d := 18) pz_90 rfl rfl rfl rfl aw_308 ac_308 (af_HC ah_283 (by decide) (af_HC ah_306 (by decide) (af_HC ah_307 (by decide) (af_HC ah_285 (by decide) (af_HC ah_284 (by decide) (af_HC ah_9 (by decide) (af_HC ah_11 (by decide) (af_HC ah_34 (by decide) (af_HC ah_93 (by decide) af_HN)))))))))
def ag_309 : af_G := ((8, 4, (some .boolean), mc_89), aw_Sh, [ak_283, ak_308, ak_9], 0, ak_309.2.2.2.1, ak_309.2.2.2.2, [(2, (1, [(0, .inr (.inl 27)), (1, .inl (1, [])), (2, .inl (0, [0]))], [], [], ([(0, 0, 2147483647)], [], [])), [(2, 0, (0, [])), (2147483647, 1, (0, [0])), (0, 0, (0, [])), (1000, 0, (0, [])), (0, 0, (0, [])), (0, 0, (0, []))]),
  (20, (4, [(0, .inr (.inl 27)), (1, .inl (1, [])), (2, .inl (0, [0])), (3, .inl (0, [1]))], [], [((1, 5), (0, [2])), ((27, 3), (0, [3]))], ([(0, 0, 2147483646), (1, 0, 20), (2, 0, 4), (3, (-2147483647), 20)], [], [])), [(2, 0, (0, [])), (2147483647, 1, (0, [0])), (0, 0, (0, [])), (1, 0, (0, [])), (2147483647, 1, (0, [1])), (0, 0, (0, []))])], [], [])
set_option maxRecDepth 1000000 in
theorem ac_309 : af_meth 32 ag_309 ak_309.2.2.1 = true := by decide +kernel
theorem aw_309 : af_wfK ak_309.2.1 ak_309.2.2.1 ak_309.2.2.2.2 ag_309.2.2.2.2.2.2.1 = true := by decide +kernel
theorem ah_309 : af_Holds aw_Sh 20 ak_309 := af_soundG (G := ag_309) (K := ak_309) (d := 19) pz_89 rfl rfl rfl rfl aw_309 ac_309 (af_HC ah_283 (by decide) (af_HC ah_308 (by decide) (af_HC ah_9 (by decide) af_HN)))
def ag_310 : af_G := ((8, 1, (some .int), mc_88), aw_Sh, [ak_277, ak_309, ak_10, ak_11], 0, ak_310.2.2.2.1, ak_310.2.2.2.2, [], [], [])
set_option maxRecDepth 1000000 in
theorem ac_310 : af_meth 31 ag_310 ak_310.2.2.1 = true := by decide +kernel
theorem aw_310 : af_wfK ak_310.2.1 ak_310.2.2.1 ak_310.2.2.2.2 ag_310.2.2.2.2.2.2.1 = true := by decide +kernel
theorem ah_310 : af_Holds aw_Sh 21 ak_310 := af_soundG (G := ag_310) (K := ak_310) (d := 20) pz_88 rfl rfl rfl rfl aw_310 ac_310 (af_HC ah_277 (by decide) (af_HC ah_309 (by decide) (af_HC ah_10 (by decide) (af_HC ah_11 (by decide) af_HN))))
def ag_311 : af_G := ((10, 2, none, mc_161), aw_Sh, [], 0, ak_311.2.2.2.1, ak_311.2.2.2.2, [], [], [])
set_option maxRecDepth 1000000 in
theorem ac_311 : af_meth 17 ag_311 ak_311.2.2.1 = true := by decide +kernel
theorem aw_311 : af_wfK ak_311.2.1 ak_311.2.2.1 ak_311.2.2.2.2 ag_311.2.2.2.2.2.2.1 = true := by decide +kernel
theorem ah_311 : af_Holds aw_Sh 1 ak_311 := af_soundG (G := ag_311) (K := ak_311) (d := 0) pz_161 rfl rfl rfl rfl aw_311 ac_311 af_HN
def ag_312 : af_G := ((10, 2, none, mc_161), aw_Sh, [], 0, ak_312.2.2.2.1, ak_312.2.2.2.2, [], [], [])
set_option maxRecDepth 1000000 in
theorem ac_312 : af_meth 17 ag_312 ak_312.2.2.1 = true := by decide +kernel
theorem aw_312 : af_wfK ak_312.2.1 ak_312.2.2.1 ak_312.2.2.2.2 ag_312.2.2.2.2.2.2.1 = true := by decide +kernel
theorem ah_312 : af_Holds aw_Sh 1 ak_312 := af_soundG (G := ag_312) (K := ak_312) (d := 0) pz_161 rfl rfl rfl rfl aw_312 ac_312 af_HN
def ag_313 : af_G := ((10, 2, none, mc_161), aw_Sh, [], 0, ak_313.2.2.2.1, ak_313.2.2.2.2, [], [], [])
set_option maxRecDepth 1000000 in
theorem ac_313 : af_meth 17 ag_313 ak_313.2.2.1 = true := by decide +kernel
theorem aw_313 : af_wfK ak_313.2.1 ak_313.2.2.1 ak_313.2.2.2.2 ag_313.2.2.2.2.2.2.1 = true := by decide +kernel
theorem ah_313 : af_Holds aw_Sh 1 ak_313 := af_soundG (G := ag_313) (K := ak_313) (d := 0) pz_161 rfl rfl rfl rfl aw_313 ac_313 af_HN
def ag_314 : af_G := ((7, 2, none, mc_81), aw_Sh, [ak_311, ak_312, ak_313], 0, ak_314.2.2.2.1, ak_314.2.2.2.2, [], [], [])
set_option maxRecDepth 1000000 in
theorem ac_314 : af_meth 26 ag_314 ak_314.2.2.1 = true := by decide +kernel
theorem aw_314 : af_wfK ak_314.2.1 ak_314.2.2.1 ak_314.2.2.2.2 ag_314.2.2.2.2.2.2.1 = true := by decide +kernel
theorem ah_314 : af_Holds aw_Sh 2 ak_314 := af_soundG (G := ag_314) (K := ak_314) (d := 1) pz_81 rfl rfl rfl rfl aw_314 ac_314 (af_HC ah_311 (by decide) (af_HC ah_312 (by decide) (af_HC ah_313 (by decide) af_HN)))
def ag_315 : af_G := ((10, 2, (some .int), mc_147), aw_Sh, [ak_314, ak_310], 0, ak_315.2.2.2.1, ak_315.2.2.2.2, [], [], [])
set_option maxRecDepth 1000000 in
theorem ac_315 : af_meth 24 ag_315 ak_315.2.2.1 = true := by decide +kernel
theorem aw_315 : af_wfK ak_315.2.1 ak_315.2.2.1 ak_315.2.2.2.2 ag_315.2.2.2.2.2.2.1 = true := by decide +kernel
theorem ah_315 : af_Holds aw_Sh 22 ak_315 := af_soundG (G := ag_315) (K := ak_315) (d := 21) pz_147 rfl rfl rfl rfl aw_315 ac_315 (af_HC ah_314 (by decide) (af_HC ah_310 (by decide) af_HN))
def ag_316 : af_G := ((10, 2, (some .int), mc_159), aw_Sh, [], 1, ak_316.2.2.2.1, ak_316.2.2.2.2, [], [], [])
set_option maxRecDepth 1000000 in
theorem ac_316 : af_meth 17 ag_316 ak_316.2.2.1 = true := by decide +kernel
theorem aw_316 : af_wfK ak_316.2.1 ak_316.2.2.1 ak_316.2.2.2.2 ag_316.2.2.2.2.2.2.1 = true := by decide +kernel
theorem ah_316 : af_Holds aw_Sh 1 ak_316 := af_soundG (G := ag_316) (K := ak_316) (d := 0) pz_159 rfl rfl rfl rfl aw_316 ac_316 af_HN
def ag_317 : af_G := ((10, 2, (some .int), mc_159), aw_Sh, [], 1, ak_317.2.2.2.1, ak_317.2.2.2.2, [], [], [])
set_option maxRecDepth 1000000 in
theorem ac_317 : af_meth 17 ag_317 ak_317.2.2.1 = true := by decide +kernel
theorem aw_317 : af_wfK ak_317.2.1 ak_317.2.2.1 ak_317.2.2.2.2 ag_317.2.2.2.2.2.2.1 = true := by decide +kernel
theorem ah_317 : af_Holds aw_Sh 1 ak_317 := af_soundG (G := ag_317) (K := ak_317) (d := 0) pz_159 rfl rfl rfl rfl aw_317 ac_317 af_HN
def ag_318 : af_G := ((10, 2, (some .int), mc_159), aw_Sh, [], 1, ak_318.2.2.2.1, ak_318.2.2.2.2, [], [], [])
set_option maxRecDepth 1000000 in
theorem ac_318 : af_meth 17 ag_318 ak_318.2.2.1 = true := by decide +kernel
theorem aw_318 : af_wfK ak_318.2.1 ak_318.2.2.1 ak_318.2.2.2.2 ag_318.2.2.2.2.2.2.1 = true := by decide +kernel
theorem ah_318 : af_Holds aw_Sh 1 ak_318 := af_soundG (G := ag_318) (K := ak_318) (d := 0) pz_159 rfl rfl rfl rfl aw_318 ac_318 af_HN
def ag_319 : af_G := ((7, 4, (some .boolean), mc_86), aw_Sh, [ak_317, ak_318], 2, ak_319.2.2.2.1, ak_319.2.2.2.2, [], [], [])
set_option maxRecDepth 1000000 in
theorem ac_319 : af_meth 22 ag_319 ak_319.2.2.1 = true := by decide +kernel
theorem aw_319 : af_wfK ak_319.2.1 ak_319.2.2.1 ak_319.2.2.2.2 ag_319.2.2.2.2.2.2.1 = true := by decide +kernel
theorem ah_319 : af_Holds aw_Sh 2 ak_319 := af_soundG (G := ag_319) (K := ak_319) (d := 1) pz_86 rfl rfl rfl rfl aw_319 ac_319 (af_HC ah_317 (by decide) (af_HC ah_318 (by decide) af_HN))
def ag_320 : af_G := ((7, 5, (some .boolean), mc_85), aw_Sh, [ak_134, ak_146, ak_142, ak_319, ak_108, ak_109, ak_316, ak_317], 2, ak_320.2.2.2.1, ak_320.2.2.2.2, [], [], [])
set_option maxRecDepth 1000000 in
theorem ac_320 : af_meth 34 ag_320 ak_320.2.2.1 = true := by decide +kernel
theorem aw_320 : af_wfK ak_320.2.1 ak_320.2.2.1 ak_320.2.2.2.2 ag_320.2.2.2.2.2.2.1 = true := by decide +kernel
theorem ah_320 : af_Holds aw_Sh 5 ak_320 := af_soundG (G := ag_320) (K := ak_320) (d := 4) pz_85 rfl rfl rfl rfl aw_320 ac_320 (af_HC ah_134 (by decide) (af_HC ah_146 (by decide) (af_HC ah_142 (by decide) (af_HC ah_319 (by decide) (af_HC ah_108 (by decide) (af_HC ah_109 (by decide) (af_HC ah_316 (by decide) (af_HC ah_317 (by decide) af_HN))))))))
def ag_321 : af_G := ((7, 5, (some .int), mc_84), aw_Sh, [ak_320, ak_101], 1, ak_321.2.2.2.1, ak_321.2.2.2.2, [(5, (3, [(0, .inr (.inl 17)), (1, .inr (.inl 11)), (2, .inl (0, [0])), (3, .inl (0, [1])), (4, .inl (0, [2]))], [], [], ([(1, (-2147483648), 2147483647), (2, 0, 6), (0, (-2147483648), 2147483647)], [], [])), [(1, 0, (0, [])), (2147483647, 1, (0, [2])), (0, 0, (0, []))])], [], [])
set_option maxRecDepth 1000000 in
theorem ac_321 : af_meth 26 ag_321 ak_321.2.2.1 = true := by decide +kernel
theorem aw_321 : af_wfK ak_321.2.1 ak_321.2.2.1 ak_321.2.2.2.2 ag_321.2.2.2.2.2.2.1 = true := by decide +kernel
theorem ah_321 : af_Holds aw_Sh 6 ak_321 := af_soundG (G := ag_321) (K := ak_321) (d := 5) pz_84 rfl rfl rfl rfl aw_321 ac_321 (af_HC ah_320 (by decide) (af_HC ah_101 (by decide) af_HN))
def ag_322 : af_G := ((10, 3, none, mc_160), aw_Sh, [], 2, ak_322.2.2.2.1, ak_322.2.2.2.2, [], [], [])
set_option maxRecDepth 1000000 in
theorem ac_322 : af_meth 17 ag_322 ak_322.2.2.1 = true := by decide +kernel
theorem aw_322 : af_wfK ak_322.2.1 ak_322.2.2.1 ak_322.2.2.2.2 ag_322.2.2.2.2.2.2.1 = true := by decide +kernel
theorem ah_322 : af_Holds aw_Sh 1 ak_322 := af_soundG (G := ag_322) (K := ak_322) (d := 0) pz_160 rfl rfl rfl rfl aw_322 ac_322 af_HN
def ag_323 : af_G := ((10, 2, (some .int), mc_159), aw_Sh, [], 1, ak_323.2.2.2.1, ak_323.2.2.2.2, [], [], [])
set_option maxRecDepth 1000000 in
theorem ac_323 : af_meth 17 ag_323 ak_323.2.2.1 = true := by decide +kernel
theorem aw_323 : af_wfK ak_323.2.1 ak_323.2.2.1 ak_323.2.2.2.2 ag_323.2.2.2.2.2.2.1 = true := by decide +kernel
theorem ah_323 : af_Holds aw_Sh 1 ak_323 := af_soundG (G := ag_323) (K := ak_323) (d := 0) pz_159 rfl rfl rfl rfl aw_323 ac_323 af_HN
def ag_324 : af_G := ((7, 6, (some .int), mc_83), aw_Sh, [ak_321, ak_101, ak_316, ak_323, ak_322], 0, ak_324.2.2.2.1, ak_324.2.2.2.2, [(18, (3, [(0, .inr (.inl 17)), (1, .inr (.inl 11)), (2, .inl (0, [0])), (3, .inl (0, [1])), (4, .inl (0, [2]))], [], [], ([(0, (-2147483648), 2147483647), (1, (-2147483648), 2147483647), (2, 0, 2147483647)], [], [])), [(1, 0, (0, [])), (2147483647, 1, (0, [2])), (0, 0, (0, []))])], [], [])
set_option maxRecDepth 1000000 in
theorem ac_324 : af_meth 45 ag_324 ak_324.2.2.1 = true := by decide +kernel
theorem aw_324 : af_wfK ak_324.2.1 ak_324.2.2.1 ak_324.2.2.2.2 ag_324.2.2.2.2.2.2.1 = true := by decide +kernel
theorem ah_324 : af_Holds aw_Sh 7 ak_324 := af_soundG (G := ag_324) (K := ak_324) (d := 6) pz_83 rfl rfl rfl rfl aw_324 ac_324 (af_HC ah_321 (by decide) (af_HC ah_101 (by decide) (af_HC ah_316 (by decide) (af_HC ah_323 (by decide) (af_HC ah_322 (by decide) af_HN)))))
def ag_325 : af_G := ((10, 5, (some .int), mc_148), aw_Sh, [ak_324, ak_227, ak_138], 1, ak_325.2.2.2.1, ak_325.2.2.2.2, [(39, (4, [(0, .inr (.inl 0)), (1, .inl (0, [0])), (2, .inl (0, [1])), (3, .inl (0, [2])), (4, .inl (0, [3]))], [], [], ([(1, (-2147483648), 2147483647), (2, (-2147483648), 2147483647), (3, 0, 6), (0, (-2147483648), 2147483647)], [], [])), [(1, 0, (0, [])), (2147483647, 1, (0, [3])), (0, 0, (0, []))])], [], [])
set_option maxRecDepth 1000000 in
theorem ac_325 : af_meth 24 ag_325 ak_325.2.2.1 = true := by decide +kernel
theorem aw_325 : af_wfK ak_325.2.1 ak_325.2.2.1 ak_325.2.2.2.2 ag_325.2.2.2.2.2.2.1 = true := by decide +kernel
theorem ah_325 : af_Holds aw_Sh 8 ak_325 := af_soundG (G := ag_325) (K := ak_325) (d := 7) pz_148 rfl rfl rfl rfl aw_325 ac_325 (af_HC ah_324 (by decide) (af_HC ah_227 (by decide) (af_HC ah_138 (by decide) af_HN)))
def ag_326 : af_G := ((10, 2, (some (.object "ReadBound$Image")), mc_155), aw_Sh, [], 1, ak_326.2.2.2.1, ak_326.2.2.2.2, [], [], [])
set_option maxRecDepth 1000000 in
theorem ac_326 : af_meth 12 ag_326 ak_326.2.2.1 = true := by decide +kernel
theorem aw_326 : af_wfK ak_326.2.1 ak_326.2.2.1 ak_326.2.2.2.2 ag_326.2.2.2.2.2.2.1 = true := by decide +kernel
theorem ah_326 : af_Holds aw_Sh 1 ak_326 := af_soundG (G := ag_326) (K := ak_326) (d := 0) pz_155 rfl rfl rfl rfl aw_326 ac_326 af_HN
def ag_327 : af_G := ((10, 2, none, mc_161), aw_Sh, [], 0, ak_327.2.2.2.1, ak_327.2.2.2.2, [], [], [])
set_option maxRecDepth 1000000 in
theorem ac_327 : af_meth 17 ag_327 ak_327.2.2.1 = true := by decide +kernel
theorem aw_327 : af_wfK ak_327.2.1 ak_327.2.2.1 ak_327.2.2.2.2 ag_327.2.2.2.2.2.2.1 = true := by decide +kernel
theorem ah_327 : af_Holds aw_Sh 1 ak_327 := af_soundG (G := ag_327) (K := ak_327) (d := 0) pz_161 rfl rfl rfl rfl aw_327 ac_327 af_HN
def ag_328 : af_G := ((2, 2, none, mc_11), aw_Sh, [ak_327], 0, ak_328.2.2.2.1, ak_328.2.2.2.2, [], [], [])
set_option maxRecDepth 1000000 in
theorem ac_328 : af_meth 26 ag_328 ak_328.2.2.1 = true := by decide +kernel
theorem aw_328 : af_wfK ak_328.2.1 ak_328.2.2.1 ak_328.2.2.2.2 ag_328.2.2.2.2.2.2.1 = true := by decide +kernel
theorem ah_328 : af_Holds aw_Sh 2 ak_328 := af_soundG (G := ag_328) (K := ak_328) (d := 1) pz_11 rfl rfl rfl rfl aw_328 ac_328 (af_HC ah_327 (by decide) af_HN)
def ag_329 : af_G := ((10, 2, none, mc_161), aw_Sh, [], 0, ak_329.2.2.2.1, ak_329.2.2.2.2, [], [], [])
set_option maxRecDepth 1000000 in
theorem ac_329 : af_meth 17 ag_329 ak_329.2.2.1 = true := by decide +kernel
theorem aw_329 : af_wfK ak_329.2.1 ak_329.2.2.1 ak_329.2.2.2.2 ag_329.2.2.2.2.2.2.1 = true := by decide +kernel
theorem ah_329 : af_Holds aw_Sh 1 ak_329 := af_soundG (G := ag_329) (K := ak_329) (d := 0) pz_161 rfl rfl rfl rfl aw_329 ac_329 af_HN
def ag_330 : af_G := ((4, 2, none, mc_36), aw_Sh, [ak_329], 0, ak_330.2.2.2.1, ak_330.2.2.2.2, [], [], [])
set_option maxRecDepth 1000000 in
theorem ac_330 : af_meth 12 ag_330 ak_330.2.2.1 = true := by decide +kernel
theorem aw_330 : af_wfK ak_330.2.1 ak_330.2.2.1 ak_330.2.2.2.2 ag_330.2.2.2.2.2.2.1 = true := by decide +kernel
theorem ah_330 : af_Holds aw_Sh 2 ak_330 := af_soundG (G := ag_330) (K := ak_330) (d := 1) pz_36 rfl rfl rfl rfl aw_330 ac_330 (af_HC ah_329 (by decide) af_HN)
def ag_331 : af_G := ((10, 2, none, mc_161), aw_Sh, [], 0, ak_331.2.2.2.1, ak_331.2.2.2.2, [], [], [])
set_option maxRecDepth 1000000 in
theorem ac_331 : af_meth 17 ag_331 ak_331.2.2.1 = true := by decide +kernel
theorem aw_331 : af_wfK ak_331.2.1 ak_331.2.2.1 ak_331.2.2.2.2 ag_331.2.2.2.2.2.2.1 = true := by decide +kernel
theorem ah_331 : af_Holds aw_Sh 1 ak_331 := af_soundG (G := ag_331) (K := ak_331) (d := 0) pz_161 rfl rfl rfl rfl aw_331 ac_331 af_HN
def ag_332 : af_G := ((10, 2, none, mc_161), aw_Sh, [], 0, ak_332.2.2.2.1, ak_332.2.2.2.2, [], [], [])
set_option maxRecDepth 1000000 in
theorem ac_332 : af_meth 17 ag_332 ak_332.2.2.1 = true := by decide +kernel
theorem aw_332 : af_wfK ak_332.2.1 ak_332.2.2.1 ak_332.2.2.2.2 ag_332.2.2.2.2.2.2.1 = true := by decide +kernel
theorem ah_332 : af_Holds aw_Sh 1 ak_332 := af_soundG (G := ag_332) (K := ak_332) (d := 0) pz_161 rfl rfl rfl rfl aw_332 ac_332 af_HN
def ag_333 : af_G := ((10, 2, none, mc_161), aw_Sh, [], 0, ak_333.2.2.2.1, ak_333.2.2.2.2, [], [], [])
set_option maxRecDepth 1000000 in
theorem ac_333 : af_meth 17 ag_333 ak_333.2.2.1 = true := by decide +kernel
theorem aw_333 : af_wfK ak_333.2.1 ak_333.2.2.1 ak_333.2.2.2.2 ag_333.2.2.2.2.2.2.1 = true := by decide +kernel
theorem ah_333 : af_Holds aw_Sh 1 ak_333 := af_soundG (G := ag_333) (K := ak_333) (d := 0) pz_161 rfl rfl rfl rfl aw_333 ac_333 af_HN
def ag_334 : af_G := ((7, 2, none, mc_81), aw_Sh, [ak_331, ak_332, ak_333], 0, ak_334.2.2.2.1, ak_334.2.2.2.2, [], [], [])
set_option maxRecDepth 1000000 in
theorem ac_334 : af_meth 26 ag_334 ak_334.2.2.1 = true := by decide +kernel
theorem aw_334 : af_wfK ak_334.2.1 ak_334.2.2.1 ak_334.2.2.2.2 ag_334.2.2.2.2.2.2.1 = true := by decide +kernel
theorem ah_334 : af_Holds aw_Sh 2 ak_334 := af_soundG (G := ag_334) (K := ak_334) (d := 1) pz_81 rfl rfl rfl rfl aw_334 ac_334 (af_HC ah_331 (by decide) (af_HC ah_332 (by decide) (af_HC ah_333 (by decide) af_HN)))
def ag_335 : af_G := ((1, 4, none, mc_7), aw_Sh, [ak_328, ak_330, ak_334], 0, ak_335.2.2.2.1, ak_335.2.2.2.2, [], [], [])
set_option maxRecDepth 1000000 in
theorem ac_335 : af_meth 22 ag_335 ak_335.2.2.1 = true := by decide +kernel
theorem aw_335 : af_wfK ak_335.2.1 ak_335.2.2.1 ak_335.2.2.2.2 ag_335.2.2.2.2.2.2.1 = true := by decide +kernel
theorem ah_335 : af_Holds aw_Sh 3 ak_335 := af_soundG (G := ag_335) (K := ak_335) (d := 2) pz_7 rfl rfl rfl rfl aw_335 ac_335 (af_HC ah_328 (by decide) (af_HC ah_330 (by decide) (af_HC ah_334 (by decide) af_HN)))
def ag_336 : af_G := ((10, 2, none, mc_161), aw_Sh, [], 0, ak_336.2.2.2.1, ak_336.2.2.2.2, [], [], [])
set_option maxRecDepth 1000000 in
theorem ac_336 : af_meth 17 ag_336 ak_336.2.2.1 = true := by decide +kernel
theorem aw_336 : af_wfK ak_336.2.1 ak_336.2.2.1 ak_336.2.2.2.2 ag_336.2.2.2.2.2.2.1 = true := by decide +kernel
theorem ah_336 : af_Holds aw_Sh 1 ak_336 := af_soundG (G := ag_336) (K := ak_336) (d := 0) pz_161 rfl rfl rfl rfl aw_336 ac_336 af_HN
def ag_337 : af_G := ((2, 2, none, mc_11), aw_Sh, [ak_336], 0, ak_337.2.2.2.1, ak_337.2.2.2.2, [], [], [])
set_option maxRecDepth 1000000 in
theorem ac_337 : af_meth 26 ag_337 ak_337.2.2.1 = true := by decide +kernel
theorem aw_337 : af_wfK ak_337.2.1 ak_337.2.2.1 ak_337.2.2.2.2 ag_337.2.2.2.2.2.2.1 = true := by decide +kernel
theorem ah_337 : af_Holds aw_Sh 2 ak_337 := af_soundG (G := ag_337) (K := ak_337) (d := 1) pz_11 rfl rfl rfl rfl aw_337 ac_337 (af_HC ah_336 (by decide) af_HN)
