/-! the checks; by program -/
def ag_120 : af_G := ((10, 3, (some .int), mc_115), aw_Sh, [ak_119, ak_117, ak_109], 2, ak_120.2.2.2.1, ak_120.2.2.2.2, [], [], [])
set_option maxRecDepth 1000000 in
theorem ac_120 : af_meth 21 ag_120 ak_120.2.2.1 = true := by decide +kernel
theorem aw_120 : af_wfK ak_120.2.1 ak_120.2.2.1 ak_120.2.2.2.2 ag_120.2.2.2.2.2.2.1 = true := by decide +kernel
theorem ah_120 : af_Holds aw_Sh 4 ak_120 := af_soundG (G := ag_120) (K := ak_120) (d := 3) pz_115 rfl rfl rfl rfl aw_120 ac_120 (af_HC ah_119 (by decide) (af_HC ah_117 (by decide) (af_HC ah_109 (by decide) af_HN)))
def ag_121 : af_G := ((4, 4, (some .int), mc_67), aw_Sh, [ak_101, ak_108], 1, ak_121.2.2.2.1, ak_121.2.2.2.2, [(4, (3, [(0, .inr (.inl 11)), (1, .inl (0, [0])), (2, .inl (0, [1])), (3, .inl (0, [2]))], [], [], ([(1, (-2147483648), 2147483647), (2, 0, 6), (0, (-2147483648), 2147483647)], [], [])), [(1, 0, (0, [])), (2147483647, 1, (0, [2])), (0, 0, (0, []))])], [], [])
set_option maxRecDepth 1000000 in
theorem ac_121 : af_meth 28 ag_121 ak_121.2.2.1 = true := by decide +kernel
theorem aw_121 : af_wfK ak_121.2.1 ak_121.2.2.1 ak_121.2.2.2.2 ag_121.2.2.2.2.2.2.1 = true := by decide +kernel
theorem ah_121 : af_Holds aw_Sh 2 ak_121 := af_soundG (G := ag_121) (K := ak_121) (d := 1) pz_67 rfl rfl rfl rfl aw_121 ac_121 (af_HC ah_101 (by decide) (af_HC ah_108 (by decide) af_HN))
def ag_122 : af_G := ((10, 3, (some .int), mc_116), aw_Sh, [ak_121, ak_117, ak_108, ak_109], 2, ak_122.2.2.2.1, ak_122.2.2.2.2, [], [], [])
set_option maxRecDepth 1000000 in
theorem ac_122 : af_meth 21 ag_122 ak_122.2.2.1 = true := by decide +kernel
theorem aw_122 : af_wfK ak_122.2.1 ak_122.2.2.1 ak_122.2.2.2.2 ag_122.2.2.2.2.2.2.1 = true := by decide +kernel
theorem ah_122 : af_Holds aw_Sh 3 ak_122 := af_soundG (G := ag_122) (K := ak_122) (d := 2) pz_116 rfl rfl rfl rfl aw_122 ac_122 (af_HC ah_121 (by decide) (af_HC ah_117 (by decide) (af_HC ah_108 (by decide) (af_HC ah_109 (by decide) af_HN))))
def ag_123 : af_G := ((10, 2, (some .int), mc_159), aw_Sh, [], 1, ak_123.2.2.2.1, ak_123.2.2.2.2, [], [], [])
set_option maxRecDepth 1000000 in
theorem ac_123 : af_meth 17 ag_123 ak_123.2.2.1 = true := by decide +kernel
theorem aw_123 : af_wfK ak_123.2.1 ak_123.2.2.1 ak_123.2.2.2.2 ag_123.2.2.2.2.2.2.1 = true := by decide +kernel
theorem ah_123 : af_Holds aw_Sh 1 ak_123 := af_soundG (G := ag_123) (K := ak_123) (d := 0) pz_159 rfl rfl rfl rfl aw_123 ac_123 af_HN
def ag_124 : af_G := ((10, 2, (some .int), mc_159), aw_Sh, [], 0, ak_124.2.2.2.1, ak_124.2.2.2.2, [], [], [])
set_option maxRecDepth 1000000 in
theorem ac_124 : af_meth 17 ag_124 ak_124.2.2.1 = true := by decide +kernel
theorem aw_124 : af_wfK ak_124.2.1 ak_124.2.2.1 ak_124.2.2.2.2 ag_124.2.2.2.2.2.2.1 = true := by decide +kernel
theorem ah_124 : af_Holds aw_Sh 1 ak_124 := af_soundG (G := ag_124) (K := ak_124) (d := 0) pz_159 rfl rfl rfl rfl aw_124 ac_124 af_HN
def ag_125 : af_G := ((10, 2, (some .int), mc_159), aw_Sh, [], 1, ak_125.2.2.2.1, ak_125.2.2.2.2, [], [], [])
set_option maxRecDepth 1000000 in
theorem ac_125 : af_meth 17 ag_125 ak_125.2.2.1 = true := by decide +kernel
theorem aw_125 : af_wfK ak_125.2.1 ak_125.2.2.1 ak_125.2.2.2.2 ag_125.2.2.2.2.2.2.1 = true := by decide +kernel
theorem ah_125 : af_Holds aw_Sh 1 ak_125 := af_soundG (G := ag_125) (K := ak_125) (d := 0) pz_159 rfl rfl rfl rfl aw_125 ac_125 af_HN
def ag_126 : af_G := ((10, 2, (some .int), mc_159), aw_Sh, [], 1, ak_126.2.2.2.1, ak_126.2.2.2.2, [], [], [])
set_option maxRecDepth 1000000 in
theorem ac_126 : af_meth 17 ag_126 ak_126.2.2.1 = true := by decide +kernel
theorem aw_126 : af_wfK ak_126.2.1 ak_126.2.2.1 ak_126.2.2.2.2 ag_126.2.2.2.2.2.2.1 = true := by decide +kernel
theorem ah_126 : af_Holds aw_Sh 1 ak_126 := af_soundG (G := ag_126) (K := ak_126) (d := 0) pz_159 rfl rfl rfl rfl aw_126 ac_126 af_HN
def ag_127 : af_G := ((4, 5, (some .int), mc_56), aw_Sh, [ak_124, ak_125, ak_126, ak_123, ak_108], 1, ak_127.2.2.2.1, ak_127.2.2.2.2, [(14, (4, [(0, .inr (.inl 11)), (1, .inl (0, [0])), (2, .inl (0, [1])), (3, .inl (0, [2])), (4, .inl (0, [3]))], [], [], ([(1, (-2147483648), 2147483647), (2, 0, 6), (3, 0, 6), (0, (-2147483648), 2147483647)], [], [])), [(1, 0, (0, [])), (2147483647, 1, (0, [3])), (0, 0, (0, []))])], [], [])
set_option maxRecDepth 1000000 in
theorem ac_127 : af_meth 34 ag_127 ak_127.2.2.1 = true := by decide +kernel
theorem aw_127 : af_wfK ak_127.2.1 ak_127.2.2.1 ak_127.2.2.2.2 ag_127.2.2.2.2.2.2.1 = true := by decide +kernel
theorem ah_127 : af_Holds aw_Sh 2 ak_127 := af_soundG (G := ag_127) (K := ak_127) (d := 1) pz_56 rfl rfl rfl rfl aw_127 ac_127 (af_HC ah_124 (by decide) (af_HC ah_125 (by decide) (af_HC ah_126 (by decide) (af_HC ah_123 (by decide) (af_HC ah_108 (by decide) af_HN)))))
def ag_128 : af_G := ((10, 2, (some .int), mc_159), aw_Sh, [], 0, ak_128.2.2.2.1, ak_128.2.2.2.2, [], [], [])
set_option maxRecDepth 1000000 in
theorem ac_128 : af_meth 17 ag_128 ak_128.2.2.1 = true := by decide +kernel
theorem aw_128 : af_wfK ak_128.2.1 ak_128.2.2.1 ak_128.2.2.2.2 ag_128.2.2.2.2.2.2.1 = true := by decide +kernel
theorem ah_128 : af_Holds aw_Sh 1 ak_128 := af_soundG (G := ag_128) (K := ak_128) (d := 0) pz_159 rfl rfl rfl rfl aw_128 ac_128 af_HN
def ag_129 : af_G := ((10, 2, (some .int), mc_159), aw_Sh, [], 1, ak_129.2.2.2.1, ak_129.2.2.2.2, [], [], [])
set_option maxRecDepth 1000000 in
theorem ac_129 : af_meth 17 ag_129 ak_129.2.2.1 = true := by decide +kernel
theorem aw_129 : af_wfK ak_129.2.1 ak_129.2.2.1 ak_129.2.2.2.2 ag_129.2.2.2.2.2.2.1 = true := by decide +kernel
theorem ah_129 : af_Holds aw_Sh 1 ak_129 := af_soundG (G := ag_129) (K := ak_129) (d := 0) pz_159 rfl rfl rfl rfl aw_129 ac_129 af_HN
def ag_130 : af_G := ((10, 2, (some .int), mc_159), aw_Sh, [], 1, ak_130.2.2.2.1, ak_130.2.2.2.2, [], [], [])
set_option maxRecDepth 1000000 in
theorem ac_130 : af_meth 17 ag_130 ak_130.2.2.1 = true := by decide +kernel
theorem aw_130 : af_wfK ak_130.2.1 ak_130.2.2.1 ak_130.2.2.2.2 ag_130.2.2.2.2.2.2.1 = true := by decide +kernel
theorem ah_130 : af_Holds aw_Sh 1 ak_130 := af_soundG (G := ag_130) (K := ak_130) (d := 0) pz_159 rfl rfl rfl rfl aw_130 ac_130 af_HN
def ag_131 : af_G := ((4, 5, (some .int), mc_57), aw_Sh, [ak_128, ak_129, ak_130], 1, ak_131.2.2.2.1, ak_131.2.2.2.2, [(4, (3, [(0, .inr (.inl 11)), (1, .inl (0, [0])), (2, .inl (0, [1])), (3, .inl (0, [2]))], [], [], ([(1, (-2147483648), 2147483647), (2, 0, 6), (0, (-2147483648), 2147483647)], [], [])), [(1, 0, (0, [])), (2147483647, 1, (0, [2])), (0, 0, (0, []))])], [], [])
set_option maxRecDepth 1000000 in
theorem ac_131 : af_meth 39 ag_131 ak_131.2.2.1 = true := by decide +kernel
theorem aw_131 : af_wfK ak_131.2.1 ak_131.2.2.1 ak_131.2.2.2.2 ag_131.2.2.2.2.2.2.1 = true := by decide +kernel
theorem ah_131 : af_Holds aw_Sh 2 ak_131 := af_soundG (G := ag_131) (K := ak_131) (d := 1) pz_57 rfl rfl rfl rfl aw_131 ac_131 (af_HC ah_128 (by decide) (af_HC ah_129 (by decide) (af_HC ah_130 (by decide) af_HN)))
def ag_132 : af_G := ((4, 1, (some .int), mc_38), aw_Sh, [ak_108], 0, ak_132.2.2.2.1, ak_132.2.2.2.2, [], [], [])
set_option maxRecDepth 1000000 in
theorem ac_132 : af_meth 11 ag_132 ak_132.2.2.1 = true := by decide +kernel
theorem aw_132 : af_wfK ak_132.2.1 ak_132.2.2.1 ak_132.2.2.2.2 ag_132.2.2.2.2.2.2.1 = true := by decide +kernel
theorem ah_132 : af_Holds aw_Sh 2 ak_132 := af_soundG (G := ag_132) (K := ak_132) (d := 1) pz_38 rfl rfl rfl rfl aw_132 ac_132 (af_HC ah_108 (by decide) af_HN)
def ag_133 : af_G := ((4, 5, (some .int), mc_55), aw_Sh, [ak_108, ak_109], 2, ak_133.2.2.2.1, ak_133.2.2.2.2, [], [], [])
set_option maxRecDepth 1000000 in
theorem ac_133 : af_meth 35 ag_133 ak_133.2.2.1 = true := by decide +kernel
theorem aw_133 : af_wfK ak_133.2.1 ak_133.2.2.1 ak_133.2.2.2.2 ag_133.2.2.2.2.2.2.1 = true := by decide +kernel
theorem ah_133 : af_Holds aw_Sh 2 ak_133 := af_soundG (G := ag_133) (K := ak_133) (d := 1) pz_55 rfl rfl rfl rfl aw_133 ac_133 (af_HC ah_108 (by decide) (af_HC ah_109 (by decide) af_HN))
def ag_134 : af_G := ((4, 7, (some .int), mc_59), aw_Sh, [ak_132, ak_133, ak_127, ak_131, ak_128, ak_129, ak_130, ak_123], 1, ak_134.2.2.2.1, ak_134.2.2.2.2, [(41, (6, [(0, .inr (.inl 11)), (1, .inl (0, [0])), (2, .inl (0, [1])), (3, .inl (0, [2])), (4, .inl (0, [3])), (5, .inl (0, [4])), (6, .inl (0, [5]))], [], [], ([(1, (-2147483648), 2147483647), (2, 1, 2), (3, (-2147483648), 2147483647), (4, 0, 6), (5, 0, 6), (0, (-2147483648), 2147483647)], [], [])), [(1, 0, (0, [])), (2147483647, 1, (0, [5])), (0, 0, (0, []))])], [], [])
set_option maxRecDepth 1000000 in
theorem ac_134 : af_meth 37 ag_134 ak_134.2.2.1 = true := by decide +kernel
theorem aw_134 : af_wfK ak_134.2.1 ak_134.2.2.1 ak_134.2.2.2.2 ag_134.2.2.2.2.2.2.1 = true := by decide +kernel
theorem ah_134 : af_Holds aw_Sh 3 ak_134 := af_soundG (G := ag_134) (K := ak_134) (d := 2) pz_59 rfl rfl rfl rfl aw_134 ac_134 (af_HC ah_132 (by decide) (af_HC ah_133 (by decide) (af_HC ah_127 (by decide) (af_HC ah_131 (by decide) (af_HC ah_128 (by decide) (af_HC ah_129 (by decide) (af_HC ah_130 (by decide) (af_HC ah_123 (by decide) af_HN))))))))
def ag_135 : af_G := ((4, 3, (some .int), mc_62), aw_Sh, [ak_134, ak_101], 0, ak_135.2.2.2.1, ak_135.2.2.2.2, [(4, (2, [(0, .inr (.inl 11)), (1, .inl (0, [0])), (2, .inl (0, [1]))], [], [], ([(0, (-2147483648), 2147483647), (1, 0, 6)], [], [])), [(1, 0, (0, [])), (2147483647, 1, (0, [1])), (0, 0, (0, []))])], [], [])
set_option maxRecDepth 1000000 in
theorem ac_135 : af_meth 24 ag_135 ak_135.2.2.1 = true := by decide +kernel
theorem aw_135 : af_wfK ak_135.2.1 ak_135.2.2.1 ak_135.2.2.2.2 ag_135.2.2.2.2.2.2.1 = true := by decide +kernel
theorem ah_135 : af_Holds aw_Sh 4 ak_135 := af_soundG (G := ag_135) (K := ak_135) (d := 3) pz_62 rfl rfl rfl rfl aw_135 ac_135 (af_HC ah_134 (by decide) (af_HC ah_101 (by decide) af_HN))
def ag_136 : af_G := ((4, 3, (some .int), mc_66), aw_Sh, [ak_101, ak_108], 0, ak_136.2.2.2.1, ak_136.2.2.2.2, [(4, (2, [(0, .inr (.inl 11)), (1, .inl (0, [0])), (2, .inl (0, [1]))], [], [], ([(0, (-2147483648), 2147483647), (1, 0, 6)], [], [])), [(1, 0, (0, [])), (2147483647, 1, (0, [1])), (0, 0, (0, []))])], [], [])
set_option maxRecDepth 1000000 in
theorem ac_136 : af_meth 25 ag_136 ak_136.2.2.1 = true := by decide +kernel
theorem aw_136 : af_wfK ak_136.2.1 ak_136.2.2.1 ak_136.2.2.2.2 ag_136.2.2.2.2.2.2.1 = true := by decide +kernel
theorem ah_136 : af_Holds aw_Sh 2 ak_136 := af_soundG (G := ag_136) (K := ak_136) (d := 1) pz_66 rfl rfl rfl rfl aw_136 ac_136 (af_HC ah_101 (by decide) (af_HC ah_108 (by decide) af_HN))
def ag_137 : af_G := ((4, 3, (some .int), mc_65), aw_Sh, [ak_101, ak_108], 0, ak_137.2.2.2.1, ak_137.2.2.2.2, [(4, (2, [(0, .inr (.inl 11)), (1, .inl (0, [0])), (2, .inl (0, [1]))], [], [], ([(0, (-2147483648), 2147483647), (1, 0, 6)], [], [])), [(1, 0, (0, [])), (2147483647, 1, (0, [1])), (0, 0, (0, []))])], [], [])
set_option maxRecDepth 1000000 in
theorem ac_137 : af_meth 23 ag_137 ak_137.2.2.1 = true := by decide +kernel
theorem aw_137 : af_wfK ak_137.2.1 ak_137.2.2.1 ak_137.2.2.2.2 ag_137.2.2.2.2.2.2.1 = true := by decide +kernel
theorem ah_137 : af_Holds aw_Sh 2 ak_137 := af_soundG (G := ag_137) (K := ak_137) (d := 1) pz_65 rfl rfl rfl rfl aw_137 ac_137 (af_HC ah_101 (by decide) (af_HC ah_108 (by decide) af_HN))
def ag_138 : af_G := ((12, 1, (some .int), mc_285), aw_Sh, [], 1, ak_138.2.2.2.1, ak_138.2.2.2.2, [], [], [])
set_option maxRecDepth 1000000 in
theorem ac_138 : af_meth 48 ag_138 ak_138.2.2.1 = true := by decide +kernel
theorem aw_138 : af_wfK ak_138.2.1 ak_138.2.2.1 ak_138.2.2.2.2 ag_138.2.2.2.2.2.2.1 = true := by decide +kernel
theorem ah_138 : af_Holds aw_Sh 1 ak_138 := af_soundG (G := ag_138) (K := ak_138) (d := 0) pz_285 rfl rfl rfl rfl aw_138 ac_138 af_HN
def ag_139 : af_G := ((4, 3, (some .int), mc_64), aw_Sh, [ak_97, ak_108, ak_138], 0, ak_139.2.2.2.1, ak_139.2.2.2.2, [(4, (2, [(0, .inr (.inl 11)), (1, .inl (0, [0])), (2, .inl (0, [1]))], [], [], ([(0, (-2147483648), 2147483647), (1, 0, 10)], [], [])), [(1, 0, (0, [])), (2147483647, 1, (0, [1])), (0, 0, (0, []))])], [], [])
set_option maxRecDepth 1000000 in
theorem ac_139 : af_meth 24 ag_139 ak_139.2.2.1 = true := by decide +kernel
theorem aw_139 : af_wfK ak_139.2.1 ak_139.2.2.1 ak_139.2.2.2.2 ag_139.2.2.2.2.2.2.1 = true := by decide +kernel
theorem ah_139 : af_Holds aw_Sh 2 ak_139 := af_soundG (G := ag_139) (K := ak_139) (d := 1) pz_64 rfl rfl rfl rfl aw_139 ac_139 (af_HC ah_97 (by decide) (af_HC ah_108 (by decide) (af_HC ah_138 (by decide) af_HN)))
def ag_140 : af_G := ((10, 2, (some .int), mc_117), aw_Sh, [ak_132, ak_135, ak_139, ak_137, ak_136, ak_108], 1, ak_140.2.2.2.1, ak_140.2.2.2.2, [], [], [])
set_option maxRecDepth 1000000 in
theorem ac_140 : af_meth 14 ag_140 ak_140.2.2.1 = true := by decide +kernel
theorem aw_140 : af_wfK ak_140.2.1 ak_140.2.2.1 ak_140.2.2.2.2 ag_140.2.2.2.2.2.2.1 = true := by decide +kernel
theorem ah_140 : af_Holds aw_Sh 5 ak_140 := af_soundG (G := ag_140) (K := ak_140) (d := 4) pz_117 rfl rfl rfl rfl aw_140 ac_140 (af_HC ah_132 (by decide) (af_HC ah_135 (by decide) (af_HC ah_139 (by decide) (af_HC ah_137 (by decide) (af_HC ah_136 (by decide) (af_HC ah_108 (by decide) af_HN))))))
def ag_141 : af_G := ((4, 3, (some .int), mc_39), aw_Sh, [ak_108], 2, ak_141.2.2.2.1, ak_141.2.2.2.2, [], [], [])
set_option maxRecDepth 1000000 in
theorem ac_141 : af_meth 17 ag_141 ak_141.2.2.1 = true := by decide +kernel
theorem aw_141 : af_wfK ak_141.2.1 ak_141.2.2.1 ak_141.2.2.2.2 ag_141.2.2.2.2.2.2.1 = true := by decide +kernel
theorem ah_141 : af_Holds aw_Sh 2 ak_141 := af_soundG (G := ag_141) (K := ak_141) (d := 1) pz_39 rfl rfl rfl rfl aw_141 ac_141 (af_HC ah_108 (by decide) af_HN)
def ag_142 : af_G := ((4, 4, (some .int), mc_63), aw_Sh, [ak_141, ak_123], 1, ak_142.2.2.2.1, ak_142.2.2.2.2, [(4, (3, [(0, .inr (.inl 11)), (1, .inl (0, [0])), (2, .inl (0, [1])), (3, .inl (0, [2]))], [], [], ([(1, (-2147483648), 2147483647), (2, 0, 6), (0, (-2147483648), 2147483647)], [], [])), [(1, 0, (0, [])), (2147483647, 1, (0, [2])), (0, 0, (0, []))])], [], [])
set_option maxRecDepth 1000000 in
theorem ac_142 : af_meth 21 ag_142 ak_142.2.2.1 = true := by decide +kernel
theorem aw_142 : af_wfK ak_142.2.1 ak_142.2.2.1 ak_142.2.2.2.2 ag_142.2.2.2.2.2.2.1 = true := by decide +kernel
theorem ah_142 : af_Holds aw_Sh 3 ak_142 := af_soundG (G := ag_142) (K := ak_142) (d := 2) pz_63 rfl rfl rfl rfl aw_142 ac_142 (af_HC ah_141 (by decide) (af_HC ah_123 (by decide) af_HN))
def ag_143 : af_G := ((10, 2, (some .int), mc_159), aw_Sh, [], 0, ak_143.2.2.2.1, ak_143.2.2.2.2, [], [], [])
set_option maxRecDepth 1000000 in
theorem ac_143 : af_meth 17 ag_143 ak_143.2.2.1 = true := by decide +kernel
theorem aw_143 : af_wfK ak_143.2.1 ak_143.2.2.1 ak_143.2.2.2.2 ag_143.2.2.2.2.2.2.1 = true := by decide +kernel
theorem ah_143 : af_Holds aw_Sh 1 ak_143 := af_soundG (G := ag_143) (K := ak_143) (d := 0) pz_159 rfl rfl rfl rfl aw_143 ac_143 af_HN
def ag_144 : af_G := ((10, 2, (some .int), mc_159), aw_Sh, [], 1, ak_144.2.2.2.1, ak_144.2.2.2.2, [], [], [])
set_option maxRecDepth 1000000 in
theorem ac_144 : af_meth 17 ag_144 ak_144.2.2.1 = true := by decide +kernel
theorem aw_144 : af_wfK ak_144.2.1 ak_144.2.2.1 ak_144.2.2.2.2 ag_144.2.2.2.2.2.2.1 = true := by decide +kernel
theorem ah_144 : af_Holds aw_Sh 1 ak_144 := af_soundG (G := ag_144) (K := ak_144) (d := 0) pz_159 rfl rfl rfl rfl aw_144 ac_144 af_HN
def ag_145 : af_G := ((10, 2, (some .int), mc_159), aw_Sh, [], 1, ak_145.2.2.2.1, ak_145.2.2.2.2, [], [], [])
set_option maxRecDepth 1000000 in
theorem ac_145 : af_meth 17 ag_145 ak_145.2.2.1 = true := by decide +kernel
theorem aw_145 : af_wfK ak_145.2.1 ak_145.2.2.1 ak_145.2.2.2.2 ag_145.2.2.2.2.2.2.1 = true := by decide +kernel
theorem ah_145 : af_Holds aw_Sh 1 ak_145 := af_soundG (G := ag_145) (K := ak_145) (d := 0) pz_159 rfl rfl rfl rfl aw_145 ac_145 af_HN
def ag_146 : af_G := ((4, 5, (some .int), mc_60), aw_Sh, [ak_134, ak_143, ak_144, ak_145], 1, ak_146.2.2.2.1, ak_146.2.2.2.2, [(11, (4, [(0, .inr (.inl 11)), (1, .inl (0, [0])), (2, .inl (0, [1])), (3, .inl (0, [2])), (4, .inl (0, [3]))], [], [], ([(1, (-2147483648), 2147483647), (2, (-2147483648), 2147483647), (3, 0, 6), (0, (-2147483648), 2147483647)], [], [])), [(1, 0, (0, [])), (2147483647, 1, (0, [3])), (0, 0, (0, []))])], [], [])
set_option maxRecDepth 1000000 in
theorem ac_146 : af_meth 31 ag_146 ak_146.2.2.1 = true := by decide +kernel
theorem aw_146 : af_wfK ak_146.2.1 ak_146.2.2.1 ak_146.2.2.2.2 ag_146.2.2.2.2.2.2.1 = true := by decide +kernel
theorem ah_146 : af_Holds aw_Sh 4 ak_146 := af_soundG (G := ag_146) (K := ak_146) (d := 3) pz_60 rfl rfl rfl rfl aw_146 ac_146 (af_HC ah_134 (by decide) (af_HC ah_143 (by decide) (af_HC ah_144 (by decide) (af_HC ah_145 (by decide) af_HN))))
def ag_147 : af_G := ((10, 2, (some .int), mc_159), aw_Sh, [], 0, ak_147.2.2.2.1, ak_147.2.2.2.2, [], [], [])
set_option maxRecDepth 1000000 in
theorem ac_147 : af_meth 17 ag_147 ak_147.2.2.1 = true := by decide +kernel
theorem aw_147 : af_wfK ak_147.2.1 ak_147.2.2.1 ak_147.2.2.2.2 ag_147.2.2.2.2.2.2.1 = true := by decide +kernel
theorem ah_147 : af_Holds aw_Sh 1 ak_147 := af_soundG (G := ag_147) (K := ak_147) (d := 0) pz_159 rfl rfl rfl rfl aw_147 ac_147 af_HN
def ag_148 : af_G := ((4, 3, (some .boolean), mc_45), aw_Sh, [ak_147, ak_108, ak_109], 2, ak_148.2.2.2.1, ak_148.2.2.2.2, [], [], [])
set_option maxRecDepth 1000000 in
theorem ac_148 : af_meth 26 ag_148 ak_148.2.2.1 = true := by decide +kernel
theorem aw_148 : af_wfK ak_148.2.1 ak_148.2.2.1 ak_148.2.2.2.2 ag_148.2.2.2.2.2.2.1 = true := by decide +kernel
theorem ah_148 : af_Holds aw_Sh 2 ak_148 := af_soundG (G := ag_148) (K := ak_148) (d := 1) pz_45 rfl rfl rfl rfl aw_148 ac_148 (af_HC ah_147 (by decide) (af_HC ah_108 (by decide) (af_HC ah_109 (by decide) af_HN)))
def ag_149 : af_G := ((4, 3, (some .int), mc_44), aw_Sh, [ak_148, ak_108], 2, ak_149.2.2.2.1, ak_149.2.2.2.2, [], [], [])
set_option maxRecDepth 1000000 in
theorem ac_149 : af_meth 22 ag_149 ak_149.2.2.1 = true := by decide +kernel
theorem aw_149 : af_wfK ak_149.2.1 ak_149.2.2.1 ak_149.2.2.2.2 ag_149.2.2.2.2.2.2.1 = true := by decide +kernel
theorem ah_149 : af_Holds aw_Sh 3 ak_149 := af_soundG (G := ag_149) (K := ak_149) (d := 2) pz_44 rfl rfl rfl rfl aw_149 ac_149 (af_HC ah_148 (by decide) (af_HC ah_108 (by decide) af_HN))
def ag_150 : af_G := ((4, 4, (some .int), mc_43), aw_Sh, [ak_132, ak_149, ak_146, ak_142, ak_108], 3, ak_150.2.2.2.1, ak_150.2.2.2.2, [], [], [])
set_option maxRecDepth 1000000 in
theorem ac_150 : af_meth 19 ag_150 ak_150.2.2.1 = true := by decide +kernel
theorem aw_150 : af_wfK ak_150.2.1 ak_150.2.2.1 ak_150.2.2.2.2 ag_150.2.2.2.2.2.2.1 = true := by decide +kernel
theorem ah_150 : af_Holds aw_Sh 5 ak_150 := af_soundG (G := ag_150) (K := ak_150) (d := 4) pz_43 rfl rfl rfl rfl aw_150 ac_150 (af_HC ah_132 (by decide) (af_HC ah_149 (by decide) (af_HC ah_146 (by decide) (af_HC ah_142 (by decide) (af_HC ah_108 (by decide) af_HN)))))
def ag_151 : af_G := ((5, 2, none, mc_72), aw_Sh, [], 0, ak_151.2.2.2.1, ak_151.2.2.2.2, [], [], [])
set_option maxRecDepth 1000000 in
theorem ac_151 : af_meth 38 ag_151 ak_151.2.2.1 = true := by decide +kernel
theorem aw_151 : af_wfK ak_151.2.1 ak_151.2.2.1 ak_151.2.2.2.2 ag_151.2.2.2.2.2.2.1 = true := by decide +kernel
theorem ah_151 : af_Holds aw_Sh 1 ak_151 := af_soundG (G := ag_151) (K := ak_151) (d := 0) pz_72 rfl rfl rfl rfl aw_151 ac_151 af_HN
def ag_152 : af_G := ((4, 4, none, mc_48), aw_Sh, [ak_110, ak_101, ak_108, ak_99], 2, ak_152.2.2.2.1, ak_152.2.2.2.2, [(28, (3, [(0, .inr (.inl 11)), (1, .inl (0, [0])), (2, .inl (0, [1])), (3, .inl (0, [2]))], [], [], ([(2, 0, 6), (0, (-2147483648), 2147483647), (1, (-2147483648), 2147483647)], [], [])), [(1, 0, (0, [])), (2147483647, 1, (0, [2])), (0, 0, (0, []))])], [], [])
set_option maxRecDepth 1000000 in
theorem ac_152 : af_meth 33 ag_152 ak_152.2.2.1 = true := by decide +kernel
theorem aw_152 : af_wfK ak_152.2.1 ak_152.2.2.1 ak_152.2.2.2.2 ag_152.2.2.2.2.2.2.1 = true := by decide +kernel
theorem ah_152 : af_Holds aw_Sh 3 ak_152 := af_soundG (G := ag_152) (K := ak_152) (d := 2) pz_48 rfl rfl rfl rfl aw_152 ac_152 (af_HC ah_110 (by decide) (af_HC ah_101 (by decide) (af_HC ah_108 (by decide) (af_HC ah_99 (by decide) af_HN))))
def ag_153 : af_G := ((4, 3, none, mc_47), aw_Sh, [ak_123, ak_99], 1, ak_153.2.2.2.1, ak_153.2.2.2.2, [(2, (2, [(0, .inr (.inl 11)), (1, .inl (0, [0])), (2, .inl (0, [1]))], [], [], ([(1, 0, 6), (0, (-2147483648), 2147483647)], [], [])), [(1, 0, (0, [])), (2147483647, 1, (0, [1])), (0, 0, (0, []))])], [], [])
set_option maxRecDepth 1000000 in
theorem ac_153 : af_meth 25 ag_153 ak_153.2.2.1 = true := by decide +kernel
theorem aw_153 : af_wfK ak_153.2.1 ak_153.2.2.1 ak_153.2.2.2.2 ag_153.2.2.2.2.2.2.1 = true := by decide +kernel
theorem ah_153 : af_Holds aw_Sh 2 ak_153 := af_soundG (G := ag_153) (K := ak_153) (d := 1) pz_47 rfl rfl rfl rfl aw_153 ac_153 (af_HC ah_123 (by decide) (af_HC ah_99 (by decide) af_HN))
def ag_154 : af_G := ((4, 4, none, mc_46), aw_Sh, [ak_111, ak_153, ak_152, ak_108, ak_99], 3, ak_154.2.2.2.1, ak_154.2.2.2.2, [], [], [])
set_option maxRecDepth 1000000 in
theorem ac_154 : af_meth 27 ag_154 ak_154.2.2.1 = true := by decide +kernel
theorem aw_154 : af_wfK ak_154.2.1 ak_154.2.2.1 ak_154.2.2.2.2 ag_154.2.2.2.2.2.2.1 = true := by decide +kernel
theorem ah_154 : af_Holds aw_Sh 4 ak_154 := af_soundG (G := ag_154) (K := ak_154) (d := 3) pz_46 rfl rfl rfl rfl aw_154 ac_154 (af_HC ah_111 (by decide) (af_HC ah_153 (by decide) (af_HC ah_152 (by decide) (af_HC ah_108 (by decide) (af_HC ah_99 (by decide) af_HN)))))
def ag_155 : af_G := ((10, 5, (some .int), mc_156), aw_Sh, [ak_150, ak_154, ak_151], 3, ak_155.2.2.2.1, ak_155.2.2.2.2, [], [], [])
set_option maxRecDepth 1000000 in
theorem ac_155 : af_meth 29 ag_155 ak_155.2.2.1 = true := by decide +kernel
theorem aw_155 : af_wfK ak_155.2.1 ak_155.2.2.1 ak_155.2.2.2.2 ag_155.2.2.2.2.2.2.1 = true := by decide +kernel
theorem ah_155 : af_Holds aw_Sh 6 ak_155 := af_soundG (G := ag_155) (K := ak_155) (d := 5) pz_156 rfl rfl rfl rfl aw_155 ac_155 (af_HC ah_150 (by decide) (af_HC ah_154 (by decide) (af_HC ah_151 (by decide) af_HN)))
def ag_156 : af_G := ((10, 3, (some .int), mc_118), aw_Sh, [ak_117, ak_155], 2, ak_156.2.2.2.1, ak_156.2.2.2.2, [], [], [])
set_option maxRecDepth 1000000 in
theorem ac_156 : af_meth 23 ag_156 ak_156.2.2.1 = true := by decide +kernel
theorem aw_156 : af_wfK ak_156.2.1 ak_156.2.2.1 ak_156.2.2.2.2 ag_156.2.2.2.2.2.2.1 = true := by decide +kernel
theorem ah_156 : af_Holds aw_Sh 7 ak_156 := af_soundG (G := ag_156) (K := ak_156) (d := 6) pz_118 rfl rfl rfl rfl aw_156 ac_156 (af_HC ah_117 (by decide) (af_HC ah_155 (by decide) af_HN))
def ag_157 : af_G := ((10, 3, (some .int), mc_119), aw_Sh, [ak_117, ak_155], 2, ak_157.2.2.2.1, ak_157.2.2.2.2, [], [], [])
set_option maxRecDepth 1000000 in
theorem ac_157 : af_meth 23 ag_157 ak_157.2.2.1 = true := by decide +kernel
theorem aw_157 : af_wfK ak_157.2.1 ak_157.2.2.1 ak_157.2.2.2.2 ag_157.2.2.2.2.2.2.1 = true := by decide +kernel
theorem ah_157 : af_Holds aw_Sh 7 ak_157 := af_soundG (G := ag_157) (K := ak_157) (d := 6) pz_119 rfl rfl rfl rfl aw_157 ac_157 (af_HC ah_117 (by decide) (af_HC ah_155 (by decide) af_HN))
def ag_158 : af_G := ((10, 3, (some .int), mc_120), aw_Sh, [ak_117, ak_155], 2, ak_158.2.2.2.1, ak_158.2.2.2.2, [], [], [])
set_option maxRecDepth 1000000 in
theorem ac_158 : af_meth 26 ag_158 ak_158.2.2.1 = true := by decide +kernel
theorem aw_158 : af_wfK ak_158.2.1 ak_158.2.2.1 ak_158.2.2.2.2 ag_158.2.2.2.2.2.2.1 = true := by decide +kernel
theorem ah_158 : af_Holds aw_Sh 7 ak_158 := af_soundG (G := ag_158) (K := ak_158) (d := 6) pz_120 rfl rfl rfl rfl aw_158 ac_158 (af_HC ah_117 (by decide) (af_HC ah_155 (by decide) af_HN))
def ag_159 : af_G := ((10, 2, (some .int), mc_121), aw_Sh, [ak_117, ak_155], 1, ak_159.2.2.2.1, ak_159.2.2.2.2, [], [], [])
set_option maxRecDepth 1000000 in
theorem ac_159 : af_meth 18 ag_159 ak_159.2.2.1 = true := by decide +kernel
theorem aw_159 : af_wfK ak_159.2.1 ak_159.2.2.1 ak_159.2.2.2.2 ag_159.2.2.2.2.2.2.1 = true := by decide +kernel
theorem ah_159 : af_Holds aw_Sh 7 ak_159 := af_soundG (G := ag_159) (K := ak_159) (d := 6) pz_121 rfl rfl rfl rfl aw_159 ac_159 (af_HC ah_117 (by decide) (af_HC ah_155 (by decide) af_HN))
def ag_160 : af_G := ((10, 3, (some .int), mc_122), aw_Sh, [ak_117, ak_155], 2, ak_160.2.2.2.1, ak_160.2.2.2.2, [], [], [])
set_option maxRecDepth 1000000 in
theorem ac_160 : af_meth 23 ag_160 ak_160.2.2.1 = true := by decide +kernel
theorem aw_160 : af_wfK ak_160.2.1 ak_160.2.2.1 ak_160.2.2.2.2 ag_160.2.2.2.2.2.2.1 = true := by decide +kernel
theorem ah_160 : af_Holds aw_Sh 7 ak_160 := af_soundG (G := ag_160) (K := ak_160) (d := 6) pz_122 rfl rfl rfl rfl aw_160 ac_160 (af_HC ah_117 (by decide) (af_HC ah_155 (by decide) af_HN))
def ag_161 : af_G := ((10, 2, (some .int), mc_123), aw_Sh, [ak_117, ak_155], 1, ak_161.2.2.2.1, ak_161.2.2.2.2, [], [], [])
set_option maxRecDepth 1000000 in
theorem ac_161 : af_meth 18 ag_161 ak_161.2.2.1 = true := by decide +kernel
theorem aw_161 : af_wfK ak_161.2.1 ak_161.2.2.1 ak_161.2.2.2.2 ag_161.2.2.2.2.2.2.1 = true := by decide +kernel
theorem ah_161 : af_Holds aw_Sh 7 ak_161 := af_soundG (G := ag_161) (K := ak_161) (d := 6) pz_123 rfl rfl rfl rfl aw_161 ac_161 (af_HC ah_117 (by decide) (af_HC ah_155 (by decide) af_HN))
def ag_162 : af_G := ((4, 6, none, mc_50), aw_Sh, [ak_132, ak_101, ak_123, ak_108, ak_99], 0, ak_162.2.2.2.1, ak_162.2.2.2.2, [(34, (4, [(0, .inr (.inl 11)), (1, .inl (0, [0])), (2, .inl (0, [1])), (3, .inl (0, [2])), (4, .inl (0, [3]))], [], [], ([(0, 0, 2147483647), (1, 0, 6), (2, 0, 6), (3, 0, 2147483647)], [], [])), [(2, 0, (0, [])), (2147483647, 1, (0, [3])), (0, 0, (0, [])), (1000, 0, (0, [])), (0, 0, (0, [])), (0, 0, (0, []))]),
  (43, (5, [(0, .inr (.inl 11)), (1, .inl (0, [0])), (2, .inl (0, [1])), (3, .inl (0, [2])), (4, .inl (0, [3])), (5, .inl (0, [4]))], [], [], ([(0, 0, 2147483647), (1, 0, 6), (2, 1, 6), (3, 0, 2147483646), (4, 0, 6)], [], [])), [(2, 0, (0, [])), (2147483647, 1, (0, [3])), (0, 0, (0, [])), (1, 0, (0, [])), (2147483647, 1, (0, [4])), (0, 0, (0, []))])], [], [])
set_option maxRecDepth 1000000 in
theorem ac_162 : af_meth 34 ag_162 ak_162.2.2.1 = true := by decide +kernel
theorem aw_162 : af_wfK ak_162.2.1 ak_162.2.2.1 ak_162.2.2.2.2 ag_162.2.2.2.2.2.2.1 = true := by decide +kernel
theorem ah_162 : af_Holds aw_Sh 3 ak_162 := af_soundG (G := ag_162) (K := ak_162) (d := 2) pz_50 rfl rfl rfl rfl aw_162 ac_162 (af_HC ah_132 (by decide) (af_HC ah_101 (by decide) (af_HC ah_123 (by decide) (af_HC ah_108 (by decide) (af_HC ah_99 (by decide) af_HN)))))
def ag_163 : af_G := ((4, 5, none, mc_51), aw_Sh, [ak_111, ak_148, ak_108, ak_109, ak_99], 1, ak_163.2.2.2.1, ak_163.2.2.2.2, [], [], [])
set_option maxRecDepth 1000000 in
theorem ac_163 : af_meth 72 ag_163 ak_163.2.2.1 = true := by decide +kernel
theorem aw_163 : af_wfK ak_163.2.1 ak_163.2.2.1 ak_163.2.2.2.2 ag_163.2.2.2.2.2.2.1 = true := by decide +kernel
theorem ah_163 : af_Holds aw_Sh 4 ak_163 := af_soundG (G := ag_163) (K := ak_163) (d := 3) pz_51 rfl rfl rfl rfl aw_163 ac_163 (af_HC ah_111 (by decide) (af_HC ah_148 (by decide) (af_HC ah_108 (by decide) (af_HC ah_109 (by decide) (af_HC ah_99 (by decide) af_HN)))))
def ag_164 : af_G := ((4, 5, none, mc_49), aw_Sh, [ak_132, ak_162, ak_163, ak_101, ak_99], 1, ak_164.2.2.2.1, ak_164.2.2.2.2, [(11, (3, [(0, .inr (.inl 11)), (1, .inl (0, [0])), (2, .inl (0, [1])), (3, .inl (0, [2]))], [], [], ([(1, 0, 2147483646), (2, 0, 2147483647), (0, (-2147483648), 2147483647)], [], [])), [(3, 0, (0, [])), (2147483647, 1, (0, [2])), (0, 0, (0, [])), (1000, 0, (0, [])), (0, 0, (0, [])), (0, 0, (0, []))]),
  (47, (4, [(0, .inr (.inl 11)), (1, .inl (0, [0])), (2, .inl (0, [1])), (3, .inl (0, [2])), (4, .inl (0, [3]))], [], [], ([(1, 0, 2147483646), (2, 0, 2147483646), (3, 0, 2147483646), (0, 1, 2147483647)], [], [])), [(3, 0, (0, [])), (2147483647, 1, (0, [2])), (0, 0, (0, [])), (2, 0, (0, [])), (2147483647, 1, (0, [3])), (0, 0, (0, []))]),
  (75, (4, [(0, .inr (.inl 11)), (1, .inl (0, [0])), (2, .inl (0, [1])), (3, .inl (0, [2])), (4, .inl (0, [3]))], [], [], ([(1, 0, 2147483646), (2, 0, 2147483646), (3, 0, 2147483646), (0, 1, 2147483647)], [], [])), [(3, 0, (0, [])), (2147483647, 1, (0, [2])), (0, 0, (0, [])), (1, 0, (0, [])), (2147483647, 1, (0, [3])), (0, 0, (0, []))])], [], [])
set_option maxRecDepth 1000000 in
theorem ac_164 : af_meth 25 ag_164 ak_164.2.2.1 = true := by decide +kernel
theorem aw_164 : af_wfK ak_164.2.1 ak_164.2.2.1 ak_164.2.2.2.2 ag_164.2.2.2.2.2.2.1 = true := by decide +kernel
theorem ah_164 : af_Holds aw_Sh 5 ak_164 := af_soundG (G := ag_164) (K := ak_164) (d := 4) pz_49 rfl rfl rfl rfl aw_164 ac_164 (af_HC ah_132 (by decide) (af_HC ah_162 (by decide) (af_HC ah_163 (by decide) (af_HC ah_101 (by decide) (af_HC ah_99 (by decide) af_HN)))))
def ag_165 : af_G := ((10, 3, (some .int), mc_124), aw_Sh, [ak_132, ak_164, ak_151], 1, ak_165.2.2.2.1, ak_165.2.2.2.2, [], [], [])
set_option maxRecDepth 1000000 in
theorem ac_165 : af_meth 34 ag_165 ak_165.2.2.1 = true := by decide +kernel
theorem aw_165 : af_wfK ak_165.2.1 ak_165.2.2.1 ak_165.2.2.2.2 ag_165.2.2.2.2.2.2.1 = true := by decide +kernel
theorem ah_165 : af_Holds aw_Sh 6 ak_165 := af_soundG (G := ag_165) (K := ak_165) (d := 5) pz_124 rfl rfl rfl rfl aw_165 ac_165 (af_HC ah_132 (by decide) (af_HC ah_164 (by decide) (af_HC ah_151 (by decide) af_HN)))
def ag_166 : af_G := ((5, 2, (some .int), mc_73), aw_Sh, [], 0, ak_166.2.2.2.1, ak_166.2.2.2.2, [], [], [])
set_option maxRecDepth 1000000 in
theorem ac_166 : af_meth 41 ag_166 ak_166.2.2.1 = true := by decide +kernel
theorem aw_166 : af_wfK ak_166.2.1 ak_166.2.2.1 ak_166.2.2.2.2 ag_166.2.2.2.2.2.2.1 = true := by decide +kernel
theorem ah_166 : af_Holds aw_Sh 1 ak_166 := af_soundG (G := ag_166) (K := ak_166) (d := 0) pz_73 rfl rfl rfl rfl aw_166 ac_166 af_HN
def ag_167 : af_G := ((10, 1, (some .int), mc_125), aw_Sh, [ak_166], 0, ak_167.2.2.2.1, ak_167.2.2.2.2, [], [], [])
set_option maxRecDepth 1000000 in
theorem ac_167 : af_meth 13 ag_167 ak_167.2.2.1 = true := by decide +kernel
theorem aw_167 : af_wfK ak_167.2.1 ak_167.2.2.1 ak_167.2.2.2.2 ag_167.2.2.2.2.2.2.1 = true := by decide +kernel
theorem ah_167 : af_Holds aw_Sh 2 ak_167 := af_soundG (G := ag_167) (K := ak_167) (d := 1) pz_125 rfl rfl rfl rfl aw_167 ac_167 (af_HC ah_166 (by decide) af_HN)
def ag_168 : af_G := ((10, 3, (some .boolean), mc_154), aw_Sh, [ak_117], 2, ak_168.2.2.2.1, ak_168.2.2.2.2, [], [], [])
set_option maxRecDepth 1000000 in
theorem ac_168 : af_meth 19 ag_168 ak_168.2.2.1 = true := by decide +kernel
theorem aw_168 : af_wfK ak_168.2.1 ak_168.2.2.1 ak_168.2.2.2.2 ag_168.2.2.2.2.2.2.1 = true := by decide +kernel
theorem ah_168 : af_Holds aw_Sh 3 ak_168 := af_soundG (G := ag_168) (K := ak_168) (d := 2) pz_154 rfl rfl rfl rfl aw_168 ac_168 (af_HC ah_117 (by decide) af_HN)
def ag_169 : af_G := ((10, 3, (some .int), mc_126), aw_Sh, [ak_141, ak_168], 2, ak_169.2.2.2.1, ak_169.2.2.2.2, [], [], [])
set_option maxRecDepth 1000000 in
theorem ac_169 : af_meth 18 ag_169 ak_169.2.2.1 = true := by decide +kernel
theorem aw_169 : af_wfK ak_169.2.1 ak_169.2.2.1 ak_169.2.2.2.2 ag_169.2.2.2.2.2.2.1 = true := by decide +kernel
theorem ah_169 : af_Holds aw_Sh 4 ak_169 := af_soundG (G := ag_169) (K := ak_169) (d := 3) pz_126 rfl rfl rfl rfl aw_169 ac_169 (af_HC ah_141 (by decide) (af_HC ah_168 (by decide) af_HN))
def ag_170 : af_G := ((10, 3, (some .int), mc_127), aw_Sh, [ak_133, ak_168], 2, ak_170.2.2.2.1, ak_170.2.2.2.2, [], [], [])
set_option maxRecDepth 1000000 in
theorem ac_170 : af_meth 18 ag_170 ak_170.2.2.1 = true := by decide +kernel
theorem aw_170 : af_wfK ak_170.2.1 ak_170.2.2.1 ak_170.2.2.2.2 ag_170.2.2.2.2.2.2.1 = true := by decide +kernel
theorem ah_170 : af_Holds aw_Sh 4 ak_170 := af_soundG (G := ag_170) (K := ak_170) (d := 3) pz_127 rfl rfl rfl rfl aw_170 ac_170 (af_HC ah_133 (by decide) (af_HC ah_168 (by decide) af_HN))
def ag_171 : af_G := ((10, 2, (some .int), mc_128), aw_Sh, [ak_134, ak_117], 1, ak_171.2.2.2.1, ak_171.2.2.2.2, [], [], [])
set_option maxRecDepth 1000000 in
theorem ac_171 : af_meth 17 ag_171 ak_171.2.2.1 = true := by decide +kernel
theorem aw_171 : af_wfK ak_171.2.1 ak_171.2.2.1 ak_171.2.2.2.2 ag_171.2.2.2.2.2.2.1 = true := by decide +kernel
theorem ah_171 : af_Holds aw_Sh 4 ak_171 := af_soundG (G := ag_171) (K := ak_171) (d := 3) pz_128 rfl rfl rfl rfl aw_171 ac_171 (af_HC ah_134 (by decide) (af_HC ah_117 (by decide) af_HN))
def ag_172 : af_G := ((10, 2, (some .int), mc_129), aw_Sh, [ak_146, ak_117], 1, ak_172.2.2.2.1, ak_172.2.2.2.2, [], [], [])
set_option maxRecDepth 1000000 in
theorem ac_172 : af_meth 17 ag_172 ak_172.2.2.1 = true := by decide +kernel
theorem aw_172 : af_wfK ak_172.2.1 ak_172.2.2.1 ak_172.2.2.2.2 ag_172.2.2.2.2.2.2.1 = true := by decide +kernel
theorem ah_172 : af_Holds aw_Sh 5 ak_172 := af_soundG (G := ag_172) (K := ak_172) (d := 4) pz_129 rfl rfl rfl rfl aw_172 ac_172 (af_HC ah_146 (by decide) (af_HC ah_117 (by decide) af_HN))
def ag_173 : af_G := ((4, 3, (some .int), mc_58), aw_Sh, [ak_127, ak_131], 1, ak_173.2.2.2.1, ak_173.2.2.2.2, [], [], [])
set_option maxRecDepth 1000000 in
theorem ac_173 : af_meth 16 ag_173 ak_173.2.2.1 = true := by decide +kernel
theorem aw_173 : af_wfK ak_173.2.1 ak_173.2.2.1 ak_173.2.2.2.2 ag_173.2.2.2.2.2.2.1 = true := by decide +kernel
theorem ah_173 : af_Holds aw_Sh 3 ak_173 := af_soundG (G := ag_173) (K := ak_173) (d := 2) pz_58 rfl rfl rfl rfl aw_173 ac_173 (af_HC ah_127 (by decide) (af_HC ah_131 (by decide) af_HN))
def ag_174 : af_G := ((10, 2, (some .int), mc_130), aw_Sh, [ak_173, ak_117], 1, ak_174.2.2.2.1, ak_174.2.2.2.2, [], [], [])
set_option maxRecDepth 1000000 in
theorem ac_174 : af_meth 17 ag_174 ak_174.2.2.1 = true := by decide +kernel
theorem aw_174 : af_wfK ak_174.2.1 ak_174.2.2.1 ak_174.2.2.2.2 ag_174.2.2.2.2.2.2.1 = true := by decide +kernel
theorem ah_174 : af_Holds aw_Sh 4 ak_174 := af_soundG (G := ag_174) (K := ak_174) (d := 3) pz_130 rfl rfl rfl rfl aw_174 ac_174 (af_HC ah_173 (by decide) (af_HC ah_117 (by decide) af_HN))
def ag_175 : af_G := ((4, 4, (some .int), mc_61), aw_Sh, [ak_134, ak_101], 1, ak_175.2.2.2.1, ak_175.2.2.2.2, [(4, (3, [(0, .inr (.inl 11)), (1, .inl (0, [0])), (2, .inl (0, [1])), (3, .inl (0, [2]))], [], [], ([(1, (-2147483648), 2147483647), (2, 0, 6), (0, (-2147483648), 2147483647)], [], [])), [(1, 0, (0, [])), (2147483647, 1, (0, [2])), (0, 0, (0, []))])], [], [])
set_option maxRecDepth 1000000 in
theorem ac_175 : af_meth 26 ag_175 ak_175.2.2.1 = true := by decide +kernel
theorem aw_175 : af_wfK ak_175.2.1 ak_175.2.2.1 ak_175.2.2.2.2 ag_175.2.2.2.2.2.2.1 = true := by decide +kernel
theorem ah_175 : af_Holds aw_Sh 4 ak_175 := af_soundG (G := ag_175) (K := ak_175) (d := 3) pz_61 rfl rfl rfl rfl aw_175 ac_175 (af_HC ah_134 (by decide) (af_HC ah_101 (by decide) af_HN))
def ag_176 : af_G := ((10, 2, (some .int), mc_131), aw_Sh, [ak_175, ak_117], 1, ak_176.2.2.2.1, ak_176.2.2.2.2, [], [], [])
set_option maxRecDepth 1000000 in
theorem ac_176 : af_meth 17 ag_176 ak_176.2.2.1 = true := by decide +kernel
theorem aw_176 : af_wfK ak_176.2.1 ak_176.2.2.1 ak_176.2.2.2.2 ag_176.2.2.2.2.2.2.1 = true := by decide +kernel
theorem ah_176 : af_Holds aw_Sh 5 ak_176 := af_soundG (G := ag_176) (K := ak_176) (d := 4) pz_131 rfl rfl rfl rfl aw_176 ac_176 (af_HC ah_175 (by decide) (af_HC ah_117 (by decide) af_HN))
def ag_177 : af_G := ((4, 3, (some .int), mc_40), aw_Sh, [ak_108], 2, ak_177.2.2.2.1, ak_177.2.2.2.2, [], [], [])
set_option maxRecDepth 1000000 in
theorem ac_177 : af_meth 17 ag_177 ak_177.2.2.1 = true := by decide +kernel
theorem aw_177 : af_wfK ak_177.2.1 ak_177.2.2.1 ak_177.2.2.2.2 ag_177.2.2.2.2.2.2.1 = true := by decide +kernel
theorem ah_177 : af_Holds aw_Sh 2 ak_177 := af_soundG (G := ag_177) (K := ak_177) (d := 1) pz_40 rfl rfl rfl rfl aw_177 ac_177 (af_HC ah_108 (by decide) af_HN)
def ag_178 : af_G := ((10, 3, (some .int), mc_132), aw_Sh, [ak_132, ak_141, ak_177, ak_168], 2, ak_178.2.2.2.1, ak_178.2.2.2.2, [], [], [])
set_option maxRecDepth 1000000 in
theorem ac_178 : af_meth 31 ag_178 ak_178.2.2.1 = true := by decide +kernel
theorem aw_178 : af_wfK ak_178.2.1 ak_178.2.2.1 ak_178.2.2.2.2 ag_178.2.2.2.2.2.2.1 = true := by decide +kernel
theorem ah_178 : af_Holds aw_Sh 4 ak_178 := af_soundG (G := ag_178) (K := ak_178) (d := 3) pz_132 rfl rfl rfl rfl aw_178 ac_178 (af_HC ah_132 (by decide) (af_HC ah_141 (by decide) (af_HC ah_177 (by decide) (af_HC ah_168 (by decide) af_HN))))
def ag_179 : af_G := ((10, 3, (some .boolean), mc_153), aw_Sh, [ak_109], 2, ak_179.2.2.2.1, ak_179.2.2.2.2, [], [], [])
set_option maxRecDepth 1000000 in
theorem ac_179 : af_meth 20 ag_179 ak_179.2.2.1 = true := by decide +kernel
theorem aw_179 : af_wfK ak_179.2.1 ak_179.2.2.1 ak_179.2.2.2.2 ag_179.2.2.2.2.2.2.1 = true := by decide +kernel
theorem ah_179 : af_Holds aw_Sh 2 ak_179 := af_soundG (G := ag_179) (K := ak_179) (d := 1) pz_153 rfl rfl rfl rfl aw_179 ac_179 (af_HC ah_109 (by decide) af_HN)
def ag_180 : af_G := ((10, 3, none, mc_160), aw_Sh, [], 2, ak_180.2.2.2.1, ak_180.2.2.2.2, [], [], [])
set_option maxRecDepth 1000000 in
theorem ac_180 : af_meth 17 ag_180 ak_180.2.2.1 = true := by decide +kernel
theorem aw_180 : af_wfK ak_180.2.1 ak_180.2.2.1 ak_180.2.2.2.2 ag_180.2.2.2.2.2.2.1 = true := by decide +kernel
theorem ah_180 : af_Holds aw_Sh 1 ak_180 := af_soundG (G := ag_180) (K := ak_180) (d := 0) pz_160 rfl rfl rfl rfl aw_180 ac_180 af_HN
def ag_181 : af_G := ((10, 2, (some .int), mc_159), aw_Sh, [], 1, ak_181.2.2.2.1, ak_181.2.2.2.2, [], [], [])
set_option maxRecDepth 1000000 in
theorem ac_181 : af_meth 17 ag_181 ak_181.2.2.1 = true := by decide +kernel
theorem aw_181 : af_wfK ak_181.2.1 ak_181.2.2.1 ak_181.2.2.2.2 ag_181.2.2.2.2.2.2.1 = true := by decide +kernel
theorem ah_181 : af_Holds aw_Sh 1 ak_181 := af_soundG (G := ag_181) (K := ak_181) (d := 0) pz_159 rfl rfl rfl rfl aw_181 ac_181 af_HN
def ag_182 : af_G := ((10, 2, (some .int), mc_159), aw_Sh, [], 1, ak_182.2.2.2.1, ak_182.2.2.2.2, [], [], [])
set_option maxRecDepth 1000000 in
theorem ac_182 : af_meth 17 ag_182 ak_182.2.2.1 = true := by decide +kernel
theorem aw_182 : af_wfK ak_182.2.1 ak_182.2.2.1 ak_182.2.2.2.2 ag_182.2.2.2.2.2.2.1 = true := by decide +kernel
theorem ah_182 : af_Holds aw_Sh 1 ak_182 := af_soundG (G := ag_182) (K := ak_182) (d := 0) pz_159 rfl rfl rfl rfl aw_182 ac_182 af_HN
def ag_183 : af_G := ((6, 4, (some .int), mc_76), aw_Sh, [ak_147, ak_181, ak_182, ak_97], 1, ak_183.2.2.2.1, ak_183.2.2.2.2, [(4, (3, [(0, .inr (.inl 32)), (1, .inl (0, [0])), (2, .inl (0, [1])), (3, .inl (0, [2]))], [], [], ([(1, (-2147483648), 2147483647), (2, 0, 10), (0, (-2147483648), 2147483647)], [], [])), [(1, 0, (0, [])), (2147483647, 1, (0, [2])), (0, 0, (0, []))])], [], [])
set_option maxRecDepth 1000000 in
theorem ac_183 : af_meth 30 ag_183 ak_183.2.2.1 = true := by decide +kernel
theorem aw_183 : af_wfK ak_183.2.1 ak_183.2.2.1 ak_183.2.2.2.2 ag_183.2.2.2.2.2.2.1 = true := by decide +kernel
theorem ah_183 : af_Holds aw_Sh 2 ak_183 := af_soundG (G := ag_183) (K := ak_183) (d := 1) pz_76 rfl rfl rfl rfl aw_183 ac_183 (af_HC ah_147 (by decide) (af_HC ah_181 (by decide) (af_HC ah_182 (by decide) (af_HC ah_97 (by decide) af_HN))))
def ag_184 : af_G := ((10, 2, (some .int), mc_159), aw_Sh, [], 1, ak_184.2.2.2.1, ak_184.2.2.2.2, [], [], [])
set_option maxRecDepth 1000000 in
theorem ac_184 : af_meth 17 ag_184 ak_184.2.2.1 = true := by decide +kernel
theorem aw_184 : af_wfK ak_184.2.1 ak_184.2.2.1 ak_184.2.2.2.2 ag_184.2.2.2.2.2.2.1 = true := by decide +kernel
theorem ah_184 : af_Holds aw_Sh 1 ak_184 := af_soundG (G := ag_184) (K := ak_184) (d := 0) pz_159 rfl rfl rfl rfl aw_184 ac_184 af_HN
def ag_185 : af_G := ((6, 2, (some .int), mc_78), aw_Sh, [], 1, ak_185.2.2.2.1, ak_185.2.2.2.2, [(2, (2, [(0, .inl (0, [0])), (1, .inl (0, [1]))], [], [], ([(1, 0, 10), (0, (-2147483648), 2147483647)], [], [])), [(1, 0, (0, [])), (2147483647, 1, (0, [1])), (0, 0, (0, []))])], [], [])
set_option maxRecDepth 1000000 in
theorem ac_185 : af_meth 18 ag_185 ak_185.2.2.1 = true := by decide +kernel
theorem aw_185 : af_wfK ak_185.2.1 ak_185.2.2.1 ak_185.2.2.2.2 ag_185.2.2.2.2.2.2.1 = true := by decide +kernel
theorem ah_185 : af_Holds aw_Sh 1 ak_185 := af_soundG (G := ag_185) (K := ak_185) (d := 0) pz_78 rfl rfl rfl rfl aw_185 ac_185 af_HN
def ag_186 : af_G := ((10, 3, none, mc_160), aw_Sh, [], 2, ak_186.2.2.2.1, ak_186.2.2.2.2, [], [], [])
set_option maxRecDepth 1000000 in
theorem ac_186 : af_meth 17 ag_186 ak_186.2.2.1 = true := by decide +kernel
theorem aw_186 : af_wfK ak_186.2.1 ak_186.2.2.1 ak_186.2.2.2.2 ag_186.2.2.2.2.2.2.1 = true := by decide +kernel
theorem ah_186 : af_Holds aw_Sh 1 ak_186 := af_soundG (G := ag_186) (K := ak_186) (d := 0) pz_160 rfl rfl rfl rfl aw_186 ac_186 af_HN
def ag_187 : af_G := ((6, 6, none, mc_77), aw_Sh, [ak_185, ak_109, ak_184, ak_186], 2, ak_187.2.2.2.1, ak_187.2.2.2.2, [(10, (4, [(0, .inr (.inl 32)), (1, .inl (0, [0])), (2, .inl (0, [1])), (3, .inl (0, [2])), (4, .inl (0, [3]))], [], [((32, 3), (0, [1]))], ([(2, (-2147483648), 2147483647), (3, 0, 2147483647), (0, (-2147483648), 2147483647), (1, (-2147483648), 2147483647)], [], [])), [(1, 0, (0, [])), (2147483647, 1, (0, [3])), (0, 0, (0, []))])], [], [])
set_option maxRecDepth 1000000 in
theorem ac_187 : af_meth 35 ag_187 ak_187.2.2.1 = true := by decide +kernel
theorem aw_187 : af_wfK ak_187.2.1 ak_187.2.2.1 ak_187.2.2.2.2 ag_187.2.2.2.2.2.2.1 = true := by decide +kernel
theorem ah_187 : af_Holds aw_Sh 2 ak_187 := af_soundG (G := ag_187) (K := ak_187) (d := 1) pz_77 rfl rfl rfl rfl aw_187 ac_187 (af_HC ah_185 (by decide) (af_HC ah_109 (by decide) (af_HC ah_184 (by decide) (af_HC ah_186 (by decide) af_HN))))
def ag_188 : af_G := ((6, 8, (some .int), mc_75), aw_Sh, [ak_183, ak_187, ak_180], 3, ak_188.2.2.2.1, ak_188.2.2.2.2, [(35, (6, [(0, .inr (.inl 32)), (1, .inl (0, [0])), (2, .inl (0, [1])), (3, .inl (0, [2])), (4, .inl (0, [3])), (5, .inl (0, [4])), (6, .inl (0, [5]))], [], [], ([(3, (-2147483648), 2147483647), (4, (-2147483648), 2147483647), (5, 1, 10), (0, (-2147483648), 2147483647), (1, (-2147483648), 2147483647), (2, (-2147483648), 2147483647)], [], [])), [(1, 0, (0, [])), (2147483647, 1, (0, [5])), (0, 0, (0, []))])], [], [])
set_option maxRecDepth 1000000 in
theorem ac_188 : af_meth 43 ag_188 ak_188.2.2.1 = true := by decide +kernel
theorem aw_188 : af_wfK ak_188.2.1 ak_188.2.2.1 ak_188.2.2.2.2 ag_188.2.2.2.2.2.2.1 = true := by decide +kernel
theorem ah_188 : af_Holds aw_Sh 3 ak_188 := af_soundG (G := ag_188) (K := ak_188) (d := 2) pz_75 rfl rfl rfl rfl aw_188 ac_188 (af_HC ah_183 (by decide) (af_HC ah_187 (by decide) (af_HC ah_180 (by decide) af_HN)))
def ag_189 : af_G := ((10, 4, (some .int), mc_133), aw_Sh, [ak_118, ak_188, ak_117, ak_179, ak_108], 3, ak_189.2.2.2.1, ak_189.2.2.2.2, [], [], [])
set_option maxRecDepth 1000000 in
theorem ac_189 : af_meth 37 ag_189 ak_189.2.2.1 = true := by decide +kernel
theorem aw_189 : af_wfK ak_189.2.1 ak_189.2.2.1 ak_189.2.2.2.2 ag_189.2.2.2.2.2.2.1 = true := by decide +kernel
theorem ah_189 : af_Holds aw_Sh 4 ak_189 := af_soundG (G := ag_189) (K := ak_189) (d := 3) pz_133 rfl rfl rfl rfl aw_189 ac_189 (af_HC ah_118 (by decide) (af_HC ah_188 (by decide) (af_HC ah_117 (by decide) (af_HC ah_179 (by decide) (af_HC ah_108 (by decide) af_HN)))))
def ag_190 : af_G := ((10, 2, (some .int), mc_159), aw_Sh, [], 1, ak_190.2.2.2.1, ak_190.2.2.2.2, [], [], [])
set_option maxRecDepth 1000000 in
theorem ac_190 : af_meth 17 ag_190 ak_190.2.2.1 = true := by decide +kernel
theorem aw_190 : af_wfK ak_190.2.1 ak_190.2.2.1 ak_190.2.2.2.2 ag_190.2.2.2.2.2.2.1 = true := by decide +kernel
theorem ah_190 : af_Holds aw_Sh 1 ak_190 := af_soundG (G := ag_190) (K := ak_190) (d := 0) pz_159 rfl rfl rfl rfl aw_190 ac_190 af_HN
def ag_191 : af_G := ((10, 2, (some .int), mc_134), aw_Sh, [ak_190], 1, ak_191.2.2.2.1, ak_191.2.2.2.2, [], [], [])
set_option maxRecDepth 1000000 in
theorem ac_191 : af_meth 20 ag_191 ak_191.2.2.1 = true := by decide +kernel
theorem aw_191 : af_wfK ak_191.2.1 ak_191.2.2.1 ak_191.2.2.2.2 ag_191.2.2.2.2.2.2.1 = true := by decide +kernel
theorem ah_191 : af_Holds aw_Sh 2 ak_191 := af_soundG (G := ag_191) (K := ak_191) (d := 1) pz_134 rfl rfl rfl rfl aw_191 ac_191 (af_HC ah_190 (by decide) af_HN)
def ag_192 : af_G := ((10, 3, none, mc_160), aw_Sh, [], 2, ak_192.2.2.2.1, ak_192.2.2.2.2, [], [], [])
set_option maxRecDepth 1000000 in
theorem ac_192 : af_meth 17 ag_192 ak_192.2.2.1 = true := by decide +kernel
theorem aw_192 : af_wfK ak_192.2.1 ak_192.2.2.1 ak_192.2.2.2.2 ag_192.2.2.2.2.2.2.1 = true := by decide +kernel
theorem ah_192 : af_Holds aw_Sh 1 ak_192 := af_soundG (G := ag_192) (K := ak_192) (d := 0) pz_160 rfl rfl rfl rfl aw_192 ac_192 af_HN
def ag_193 : af_G := ((6, 4, (some .int), mc_76), aw_Sh, [ak_147, ak_181, ak_182, ak_97], 1, ak_193.2.2.2.1, ak_193.2.2.2.2, [(4, (3, [(0, .inr (.inl 35)), (1, .inl (0, [0])), (2, .inl (0, [1])), (3, .inl (0, [2]))], [], [], ([(1, (-2147483648), 2147483647), (2, 0, 10), (0, (-2147483648), 2147483647)], [], [])), [(1, 0, (0, [])), (2147483647, 1, (0, [2])), (0, 0, (0, []))])], [], [])
set_option maxRecDepth 1000000 in
theorem ac_193 : af_meth 30 ag_193 ak_193.2.2.1 = true := by decide +kernel
theorem aw_193 : af_wfK ak_193.2.1 ak_193.2.2.1 ak_193.2.2.2.2 ag_193.2.2.2.2.2.2.1 = true := by decide +kernel
theorem ah_193 : af_Holds aw_Sh 2 ak_193 := af_soundG (G := ag_193) (K := ak_193) (d := 1) pz_76 rfl rfl rfl rfl aw_193 ac_193 (af_HC ah_147 (by decide) (af_HC ah_181 (by decide) (af_HC ah_182 (by decide) (af_HC ah_97 (by decide) af_HN))))
def ag_194 : af_G := ((10, 2, (some .int), mc_159), aw_Sh, [], 1, ak_194.2.2.2.1, ak_194.2.2.2.2, [], [], [])
set_option maxRecDepth 1000000 in
theorem ac_194 : af_meth 17 ag_194 ak_194.2.2.1 = true := by decide +kernel
theorem aw_194 : af_wfK ak_194.2.1 ak_194.2.2.1 ak_194.2.2.2.2 ag_194.2.2.2.2.2.2.1 = true := by decide +kernel
theorem ah_194 : af_Holds aw_Sh 1 ak_194 := af_soundG (G := ag_194) (K := ak_194) (d := 0) pz_159 rfl rfl rfl rfl aw_194 ac_194 af_HN
def ag_195 : af_G := ((10, 3, none, mc_160), aw_Sh, [], 2, ak_195.2.2.2.1, ak_195.2.2.2.2, [], [], [])
set_option maxRecDepth 1000000 in
theorem ac_195 : af_meth 17 ag_195 ak_195.2.2.1 = true := by decide +kernel
theorem aw_195 : af_wfK ak_195.2.1 ak_195.2.2.1 ak_195.2.2.2.2 ag_195.2.2.2.2.2.2.1 = true := by decide +kernel
theorem ah_195 : af_Holds aw_Sh 1 ak_195 := af_soundG (G := ag_195) (K := ak_195) (d := 0) pz_160 rfl rfl rfl rfl aw_195 ac_195 af_HN
def ag_196 : af_G := ((6, 6, none, mc_77), aw_Sh, [ak_185, ak_109, ak_194, ak_195], 2, ak_196.2.2.2.1, ak_196.2.2.2.2, [(10, (4, [(0, .inr (.inl 35)), (1, .inl (0, [0])), (2, .inl (0, [1])), (3, .inl (0, [2])), (4, .inl (0, [3]))], [], [((35, 3), (0, [1]))], ([(2, (-2147483648), 2147483647), (3, 0, 2147483647), (0, (-2147483648), 2147483647), (1, (-2147483648), 2147483647)], [], [])), [(1, 0, (0, [])), (2147483647, 1, (0, [3])), (0, 0, (0, []))])], [], [])
set_option maxRecDepth 1000000 in
theorem ac_196 : af_meth 35 ag_196 ak_196.2.2.1 = true := by decide +kernel
theorem aw_196 : af_wfK ak_196.2.1 ak_196.2.2.1 ak_196.2.2.2.2 ag_196.2.2.2.2.2.2.1 = true := by decide +kernel
theorem ah_196 : af_Holds aw_Sh 2 ak_196 := af_soundG (G := ag_196) (K := ak_196) (d := 1) pz_77 rfl rfl rfl rfl aw_196 ac_196 (af_HC ah_185 (by decide) (af_HC ah_109 (by decide) (af_HC ah_194 (by decide) (af_HC ah_195 (by decide) af_HN))))
def ag_197 : af_G := ((6, 8, (some .int), mc_75), aw_Sh, [ak_193, ak_196, ak_192], 3, ak_197.2.2.2.1, ak_197.2.2.2.2, [(35, (6, [(0, .inr (.inl 35)), (1, .inl (0, [0])), (2, .inl (0, [1])), (3, .inl (0, [2])), (4, .inl (0, [3])), (5, .inl (0, [4])), (6, .inl (0, [5]))], [], [], ([(3, (-2147483648), 2147483647), (4, (-2147483648), 2147483647), (5, 1, 10), (0, (-2147483648), 2147483647), (1, (-2147483648), 2147483647), (2, (-2147483648), 2147483647)], [], [])), [(1, 0, (0, [])), (2147483647, 1, (0, [5])), (0, 0, (0, []))])], [], [])
set_option maxRecDepth 1000000 in
theorem ac_197 : af_meth 43 ag_197 ak_197.2.2.1 = true := by decide +kernel
theorem aw_197 : af_wfK ak_197.2.1 ak_197.2.2.1 ak_197.2.2.2.2 ag_197.2.2.2.2.2.2.1 = true := by decide +kernel
theorem ah_197 : af_Holds aw_Sh 3 ak_197 := af_soundG (G := ag_197) (K := ak_197) (d := 2) pz_75 rfl rfl rfl rfl aw_197 ac_197 (af_HC ah_193 (by decide) (af_HC ah_196 (by decide) (af_HC ah_192 (by decide) af_HN)))
def ag_198 : af_G := ((10, 2, (some .int), mc_159), aw_Sh, [], 1, ak_198.2.2.2.1, ak_198.2.2.2.2, [], [], [])
set_option maxRecDepth 1000000 in
theorem ac_198 : af_meth 17 ag_198 ak_198.2.2.1 = true := by decide +kernel
theorem aw_198 : af_wfK ak_198.2.1 ak_198.2.2.1 ak_198.2.2.2.2 ag_198.2.2.2.2.2.2.1 = true := by decide +kernel
theorem ah_198 : af_Holds aw_Sh 1 ak_198 := af_soundG (G := ag_198) (K := ak_198) (d := 0) pz_159 rfl rfl rfl rfl aw_198 ac_198 af_HN
def ag_199 : af_G := ((10, 6, (some .int), mc_135), aw_Sh, [ak_127, ak_197, ak_117, ak_108, ak_198], 2, ak_199.2.2.2.1, ak_199.2.2.2.2, [(56, (6, [(0, .inr (.inl 0)), (1, .inl (0, [0])), (2, .inl (0, [1])), (3, .inl (0, [2])), (4, .inl (0, [3])), (5, .inl (0, [4]))], [], [((35, 3), (0, [5]))], ([(2, 0, 9), (3, (-2147483648), 2147483647), (4, 0, 9), (5, 0, 9), (0, 0, 2147483646), (1, 0, 2147483646)], [], [])), [(1, 0, (0, [])), (2147483647, 1, (0, [4])), (0, 0, (0, []))])], [], [])
set_option maxRecDepth 1000000 in
theorem ac_199 : af_meth 36 ag_199 ak_199.2.2.1 = true := by decide +kernel
theorem aw_199 : af_wfK ak_199.2.1 ak_199.2.2.1 ak_199.2.2.2.2 ag_199.2.2.2.2.2.2.1 = true := by decide +kernel
theorem ah_199 : af_Holds aw_Sh 4 ak_199 := af_soundG (G := ag_199) (K := ak_199) (d := 3) pz_135 rfl rfl rfl rfl aw_199 ac_199 (af_HC ah_127 (by decide) (af_HC ah_197 (by decide) (af_HC ah_117 (by decide) (af_HC ah_108 (by decide) (af_HC ah_198 (by decide) af_HN)))))
def ag_200 : af_G := ((2, 3, (some .boolean), mc_16), aw_Sh, [ak_109], 2, ak_200.2.2.2.1, ak_200.2.2.2.2, [], [], [])
set_option maxRecDepth 1000000 in
theorem ac_200 : af_meth 21 ag_200 ak_200.2.2.1 = true := by decide +kernel
theorem aw_200 : af_wfK ak_200.2.1 ak_200.2.2.1 ak_200.2.2.2.2 ag_200.2.2.2.2.2.2.1 = true := by decide +kernel
theorem ah_200 : af_Holds aw_Sh 2 ak_200 := af_soundG (G := ag_200) (K := ak_200) (d := 1) pz_16 rfl rfl rfl rfl aw_200 ac_200 (af_HC ah_109 (by decide) af_HN)
def ag_201 : af_G := ((10, 2, (some .int), mc_151), aw_Sh, [ak_97], 0, ak_201.2.2.2.1, ak_201.2.2.2.2, [], [], [])
set_option maxRecDepth 1000000 in
theorem ac_201 : af_meth 17 ag_201 ak_201.2.2.1 = true := by decide +kernel
theorem aw_201 : af_wfK ak_201.2.1 ak_201.2.2.1 ak_201.2.2.2.2 ag_201.2.2.2.2.2.2.1 = true := by decide +kernel
theorem ah_201 : af_Holds aw_Sh 2 ak_201 := af_soundG (G := ag_201) (K := ak_201) (d := 1) pz_151 rfl rfl rfl rfl aw_201 ac_201 (af_HC ah_97 (by decide) af_HN)
def ag_202 : af_G := ((2, 8, (some .boolean), mc_17), aw_Sh, [ak_147, ak_181, ak_182], 3, ak_202.2.2.2.1, ak_202.2.2.2.2, [(11, (6, [(0, .inr (.inl 4)), (1, .inl (0, [0])), (2, .inl (0, [1])), (3, .inl (0, [2])), (4, .inl (0, [3])), (5, .inl (0, [4])), (6, .inl (0, [5]))], [], [], ([(3, (-2147483648), 2147483647), (4, (-2147483648), 2147483647), (5, 0, 2147483647), (0, (-2147483648), 2147483647), (1, (-2147483648), 2147483647), (2, (-2147483648), 2147483647)], [], [])), [(2, 0, (0, [])), (2147483647, 1, (0, [5])), (0, 0, (0, [])), (1000, 0, (0, [])), (0, 0, (0, [])), (0, 0, (0, []))]),
  (32, (7, [(0, .inr (.inl 4)), (1, .inl (0, [0])), (2, .inl (0, [1])), (3, .inl (0, [2])), (4, .inl (0, [3])), (5, .inl (0, [4])), (6, .inl (0, [5])), (7, .inl (0, [6]))], [], [], ([(3, (-2147483648), 2147483647), (4, (-2147483648), 2147483647), (5, 0, 2147483646), (6, 0, 10), (0, (-2147483648), 2147483647), (1, (-2147483648), 2147483647), (2, (-2147483648), 2147483647)], [], [])), [(2, 0, (0, [])), (2147483647, 1, (0, [5])), (0, 0, (0, [])), (1, 0, (0, [])), (2147483647, 1, (0, [6])), (0, 0, (0, []))])], [], [])
set_option maxRecDepth 1000000 in
theorem ac_202 : af_meth 31 ag_202 ak_202.2.2.1 = true := by decide +kernel
theorem aw_202 : af_wfK ak_202.2.1 ak_202.2.2.1 ak_202.2.2.2.2 ag_202.2.2.2.2.2.2.1 = true := by decide +kernel
theorem ah_202 : af_Holds aw_Sh 2 ak_202 := af_soundG (G := ag_202) (K := ak_202) (d := 1) pz_17 rfl rfl rfl rfl aw_202 ac_202 (af_HC ah_147 (by decide) (af_HC ah_181 (by decide) (af_HC ah_182 (by decide) af_HN)))
def ag_203 : af_G := ((10, 9, (some .int), mc_136), aw_Sh, [ak_200, ak_202, ak_119, ak_201, ak_117, ak_138], 3, ak_203.2.2.2.1, ak_203.2.2.2.2, [(87, (7, [(0, .inr (.inl 0)), (1, .inl (0, [0])), (2, .inl (0, [1])), (3, .inl (0, [2])), (4, .inl (0, [3])), (5, .inl (0, [4])), (6, .inl (0, [5])), (7, .inl (0, [6]))], [], [], ([(3, (-2147483648), 2147483647), (4, (-2147483648), 2147483647), (5, 0, 10), (6, 0, 2147483647), (0, 0, 2147483646), (1, 0, 2147483646), (2, 0, 2147483646)], [], [])), [(2, 0, (0, [])), (2147483647, 1, (0, [6])), (0, 0, (0, [])), (1000, 0, (0, [])), (0, 0, (0, [])), (0, 0, (0, []))]),
  (97, (8, [(0, .inr (.inl 0)), (1, .inl (0, [0])), (2, .inl (0, [1])), (3, .inl (0, [2])), (4, .inl (0, [3])), (5, .inl (0, [4])), (6, .inl (0, [5])), (7, .inl (0, [6])), (8, .inl (0, [7]))], [], [], ([(3, (-2147483648), 2147483647), (4, (-2147483648), 2147483647), (5, 0, 10), (6, 0, 2147483646), (7, 0, 2147483647), (0, 0, 2147483646), (1, 0, 2147483646), (2, 0, 2147483646)], [], [])), [(2, 0, (0, [])), (2147483647, 1, (0, [6])), (0, 0, (0, [])), (1, 0, (0, [])), (2147483647, 1, (0, [7])), (0, 0, (0, []))])], [], [])
set_option maxRecDepth 1000000 in
theorem ac_203 : af_meth 53 ag_203 ak_203.2.2.1 = true := by decide +kernel
theorem aw_203 : af_wfK ak_203.2.1 ak_203.2.2.1 ak_203.2.2.2.2 ag_203.2.2.2.2.2.2.1 = true := by decide +kernel
theorem ah_203 : af_Holds aw_Sh 4 ak_203 := af_soundG (G := ag_203) (K := ak_203) (d := 3) pz_136 rfl rfl rfl rfl aw_203 ac_203 (af_HC ah_200 (by decide) (af_HC ah_202 (by decide) (af_HC ah_119 (by decide) (af_HC ah_201 (by decide) (af_HC ah_117 (by decide) (af_HC ah_138 (by decide) af_HN))))))
def ag_204 : af_G := ((10, 2, none, mc_161), aw_Sh, [], 0, ak_204.2.2.2.1, ak_204.2.2.2.2, [], [], [])
set_option maxRecDepth 1000000 in
theorem ac_204 : af_meth 17 ag_204 ak_204.2.2.1 = true := by decide +kernel
theorem aw_204 : af_wfK ak_204.2.1 ak_204.2.2.1 ak_204.2.2.2.2 ag_204.2.2.2.2.2.2.1 = true := by decide +kernel
theorem ah_204 : af_Holds aw_Sh 1 ak_204 := af_soundG (G := ag_204) (K := ak_204) (d := 0) pz_161 rfl rfl rfl rfl aw_204 ac_204 af_HN
def ag_205 : af_G := ((4, 2, none, mc_36), aw_Sh, [ak_204], 0, ak_205.2.2.2.1, ak_205.2.2.2.2, [], [], [])
set_option maxRecDepth 1000000 in
theorem ac_205 : af_meth 12 ag_205 ak_205.2.2.1 = true := by decide +kernel
theorem aw_205 : af_wfK ak_205.2.1 ak_205.2.2.1 ak_205.2.2.2.2 ag_205.2.2.2.2.2.2.1 = true := by decide +kernel
theorem ah_205 : af_Holds aw_Sh 2 ak_205 := af_soundG (G := ag_205) (K := ak_205) (d := 1) pz_36 rfl rfl rfl rfl aw_205 ac_205 (af_HC ah_204 (by decide) af_HN)
def ag_206 : af_G := ((10, 2, (some .int), mc_159), aw_Sh, [], 1, ak_206.2.2.2.1, ak_206.2.2.2.2, [], [], [])
set_option maxRecDepth 1000000 in
theorem ac_206 : af_meth 17 ag_206 ak_206.2.2.1 = true := by decide +kernel
theorem aw_206 : af_wfK ak_206.2.1 ak_206.2.2.1 ak_206.2.2.2.2 ag_206.2.2.2.2.2.2.1 = true := by decide +kernel
theorem ah_206 : af_Holds aw_Sh 1 ak_206 := af_soundG (G := ag_206) (K := ak_206) (d := 0) pz_159 rfl rfl rfl rfl aw_206 ac_206 af_HN
def ag_207 : af_G := ((4, 1, (some .int), mc_38), aw_Sh, [ak_206], 0, ak_207.2.2.2.1, ak_207.2.2.2.2, [], [], [])
set_option maxRecDepth 1000000 in
theorem ac_207 : af_meth 11 ag_207 ak_207.2.2.1 = true := by decide +kernel
theorem aw_207 : af_wfK ak_207.2.1 ak_207.2.2.1 ak_207.2.2.2.2 ag_207.2.2.2.2.2.2.1 = true := by decide +kernel
theorem ah_207 : af_Holds aw_Sh 2 ak_207 := af_soundG (G := ag_207) (K := ak_207) (d := 1) pz_38 rfl rfl rfl rfl aw_207 ac_207 (af_HC ah_206 (by decide) af_HN)
def ag_208 : af_G := ((4, 3, (some .int), mc_39), aw_Sh, [ak_206], 2, ak_208.2.2.2.1, ak_208.2.2.2.2, [], [], [])
set_option maxRecDepth 1000000 in
theorem ac_208 : af_meth 17 ag_208 ak_208.2.2.1 = true := by decide +kernel
theorem aw_208 : af_wfK ak_208.2.1 ak_208.2.2.1 ak_208.2.2.2.2 ag_208.2.2.2.2.2.2.1 = true := by decide +kernel
theorem ah_208 : af_Holds aw_Sh 2 ak_208 := af_soundG (G := ag_208) (K := ak_208) (d := 1) pz_39 rfl rfl rfl rfl aw_208 ac_208 (af_HC ah_206 (by decide) af_HN)
def ag_209 : af_G := ((4, 4, (some .int), mc_63), aw_Sh, [ak_208, ak_123], 1, ak_209.2.2.2.1, ak_209.2.2.2.2, [(4, (3, [(0, .inr (.inl 13)), (1, .inl (0, [0])), (2, .inl (0, [1])), (3, .inl (0, [2]))], [], [], ([(1, (-2147483648), 2147483647), (2, 0, 6), (0, (-2147483648), 2147483647)], [], [])), [(1, 0, (0, [])), (2147483647, 1, (0, [2])), (0, 0, (0, []))])], [], [])
set_option maxRecDepth 1000000 in
theorem ac_209 : af_meth 21 ag_209 ak_209.2.2.1 = true := by decide +kernel
theorem aw_209 : af_wfK ak_209.2.1 ak_209.2.2.1 ak_209.2.2.2.2 ag_209.2.2.2.2.2.2.1 = true := by decide +kernel
theorem ah_209 : af_Holds aw_Sh 3 ak_209 := af_soundG (G := ag_209) (K := ak_209) (d := 2) pz_63 rfl rfl rfl rfl aw_209 ac_209 (af_HC ah_208 (by decide) (af_HC ah_123 (by decide) af_HN))
def ag_210 : af_G := ((4, 5, (some .int), mc_56), aw_Sh, [ak_124, ak_125, ak_126, ak_123, ak_206], 1, ak_210.2.2.2.1, ak_210.2.2.2.2, [(14, (4, [(0, .inr (.inl 13)), (1, .inl (0, [0])), (2, .inl (0, [1])), (3, .inl (0, [2])), (4, .inl (0, [3]))], [], [], ([(1, (-2147483648), 2147483647), (2, 0, 6), (3, 0, 6), (0, (-2147483648), 2147483647)], [], [])), [(1, 0, (0, [])), (2147483647, 1, (0, [3])), (0, 0, (0, []))])], [], [])
set_option maxRecDepth 1000000 in
theorem ac_210 : af_meth 34 ag_210 ak_210.2.2.1 = true := by decide +kernel
theorem aw_210 : af_wfK ak_210.2.1 ak_210.2.2.1 ak_210.2.2.2.2 ag_210.2.2.2.2.2.2.1 = true := by decide +kernel
theorem ah_210 : af_Holds aw_Sh 2 ak_210 := af_soundG (G := ag_210) (K := ak_210) (d := 1) pz_56 rfl rfl rfl rfl aw_210 ac_210 (af_HC ah_124 (by decide) (af_HC ah_125 (by decide) (af_HC ah_126 (by decide) (af_HC ah_123 (by decide) (af_HC ah_206 (by decide) af_HN)))))
def ag_211 : af_G := ((4, 5, (some .int), mc_57), aw_Sh, [ak_128, ak_129, ak_130], 1, ak_211.2.2.2.1, ak_211.2.2.2.2, [(4, (3, [(0, .inr (.inl 13)), (1, .inl (0, [0])), (2, .inl (0, [1])), (3, .inl (0, [2]))], [], [], ([(1, (-2147483648), 2147483647), (2, 0, 6), (0, (-2147483648), 2147483647)], [], [])), [(1, 0, (0, [])), (2147483647, 1, (0, [2])), (0, 0, (0, []))])], [], [])
set_option maxRecDepth 1000000 in
theorem ac_211 : af_meth 39 ag_211 ak_211.2.2.1 = true := by decide +kernel
theorem aw_211 : af_wfK ak_211.2.1 ak_211.2.2.1 ak_211.2.2.2.2 ag_211.2.2.2.2.2.2.1 = true := by decide +kernel
theorem ah_211 : af_Holds aw_Sh 2 ak_211 := af_soundG (G := ag_211) (K := ak_211) (d := 1) pz_57 rfl rfl rfl rfl aw_211 ac_211 (af_HC ah_128 (by decide) (af_HC ah_129 (by decide) (af_HC ah_130 (by decide) af_HN)))
def ag_212 : af_G := ((4, 5, (some .int), mc_55), aw_Sh, [ak_109, ak_206], 2, ak_212.2.2.2.1, ak_212.2.2.2.2, [], [], [])
set_option maxRecDepth 1000000 in
theorem ac_212 : af_meth 35 ag_212 ak_212.2.2.1 = true := by decide +kernel
theorem aw_212 : af_wfK ak_212.2.1 ak_212.2.2.1 ak_212.2.2.2.2 ag_212.2.2.2.2.2.2.1 = true := by decide +kernel
theorem ah_212 : af_Holds aw_Sh 2 ak_212 := af_soundG (G := ag_212) (K := ak_212) (d := 1) pz_55 rfl rfl rfl rfl aw_212 ac_212 (af_HC ah_109 (by decide) (af_HC ah_206 (by decide) af_HN))
def ag_213 : af_G := ((4, 7, (some .int), mc_59), aw_Sh, [ak_207, ak_212, ak_210, ak_211, ak_128, ak_129, ak_130, ak_123], 1, ak_213.2.2.2.1, ak_213.2.2.2.2, [(41, (6, [(0, .inr (.inl 13)), (1, .inl (0, [0])), (2, .inl (0, [1])), (3, .inl (0, [2])), (4, .inl (0, [3])), (5, .inl (0, [4])), (6, .inl (0, [5]))], [], [], ([(1, (-2147483648), 2147483647), (2, 1, 2), (3, (-2147483648), 2147483647), (4, 0, 6), (5, 0, 6), (0, (-2147483648), 2147483647)], [], [])), [(1, 0, (0, [])), (2147483647, 1, (0, [5])), (0, 0, (0, []))])], [], [])
set_option maxRecDepth 1000000 in
theorem ac_213 : af_meth 37 ag_213 ak_213.2.2.1 = true := by decide +kernel
theorem aw_213 : af_wfK ak_213.2.1 ak_213.2.2.1 ak_213.2.2.2.2 ag_213.2.2.2.2.2.2.1 = true := by decide +kernel
theorem ah_213 : af_Holds aw_Sh 3 ak_213 := af_soundG (G := ag_213) (K := ak_213) (d := 2) pz_59 rfl rfl rfl rfl aw_213 ac_213 (af_HC ah_207 (by decide) (af_HC ah_212 (by decide) (af_HC ah_210 (by decide) (af_HC ah_211 (by decide) (af_HC ah_128 (by decide) (af_HC ah_129 (by decide) (af_HC ah_130 (by decide) (af_HC ah_123 (by decide) af_HN))))))))
def ag_214 : af_G := ((4, 5, (some .int), mc_60), aw_Sh, [ak_213, ak_143, ak_144, ak_145], 1, ak_214.2.2.2.1, ak_214.2.2.2.2, [(11, (4, [(0, .inr (.inl 13)), (1, .inl (0, [0])), (2, .inl (0, [1])), (3, .inl (0, [2])), (4, .inl (0, [3]))], [], [], ([(1, (-2147483648), 2147483647), (2, (-2147483648), 2147483647), (3, 0, 6), (0, (-2147483648), 2147483647)], [], [])), [(1, 0, (0, [])), (2147483647, 1, (0, [3])), (0, 0, (0, []))])], [], [])
set_option maxRecDepth 1000000 in
theorem ac_214 : af_meth 31 ag_214 ak_214.2.2.1 = true := by decide +kernel
theorem aw_214 : af_wfK ak_214.2.1 ak_214.2.2.1 ak_214.2.2.2.2 ag_214.2.2.2.2.2.2.1 = true := by decide +kernel
theorem ah_214 : af_Holds aw_Sh 4 ak_214 := af_soundG (G := ag_214) (K := ak_214) (d := 3) pz_60 rfl rfl rfl rfl aw_214 ac_214 (af_HC ah_213 (by decide) (af_HC ah_143 (by decide) (af_HC ah_144 (by decide) (af_HC ah_145 (by decide) af_HN))))
def ag_215 : af_G := ((4, 3, (some .boolean), mc_45), aw_Sh, [ak_147, ak_109, ak_206], 2, ak_215.2.2.2.1, ak_215.2.2.2.2, [], [], [])
set_option maxRecDepth 1000000 in
theorem ac_215 : af_meth 26 ag_215 ak_215.2.2.1 = true := by decide +kernel
theorem aw_215 : af_wfK ak_215.2.1 ak_215.2.2.1 ak_215.2.2.2.2 ag_215.2.2.2.2.2.2.1 = true := by decide +kernel
theorem ah_215 : af_Holds aw_Sh 2 ak_215 := af_soundG (G := ag_215) (K := ak_215) (d := 1) pz_45 rfl rfl rfl rfl aw_215 ac_215 (af_HC ah_147 (by decide) (af_HC ah_109 (by decide) (af_HC ah_206 (by decide) af_HN)))
def ag_216 : af_G := ((4, 3, (some .int), mc_44), aw_Sh, [ak_215, ak_206], 2, ak_216.2.2.2.1, ak_216.2.2.2.2, [], [], [])
set_option maxRecDepth 1000000 in
theorem ac_216 : af_meth 22 ag_216 ak_216.2.2.1 = true := by decide +kernel
theorem aw_216 : af_wfK ak_216.2.1 ak_216.2.2.1 ak_216.2.2.2.2 ag_216.2.2.2.2.2.2.1 = true := by decide +kernel
theorem ah_216 : af_Holds aw_Sh 3 ak_216 := af_soundG (G := ag_216) (K := ak_216) (d := 2) pz_44 rfl rfl rfl rfl aw_216 ac_216 (af_HC ah_215 (by decide) (af_HC ah_206 (by decide) af_HN))
def ag_217 : af_G := ((4, 4, (some .int), mc_43), aw_Sh, [ak_207, ak_216, ak_214, ak_209, ak_206], 3, ak_217.2.2.2.1, ak_217.2.2.2.2, [], [], [])
set_option maxRecDepth 1000000 in
theorem ac_217 : af_meth 19 ag_217 ak_217.2.2.1 = true := by decide +kernel
theorem aw_217 : af_wfK ak_217.2.1 ak_217.2.2.1 ak_217.2.2.2.2 ag_217.2.2.2.2.2.2.1 = true := by decide +kernel
theorem ah_217 : af_Holds aw_Sh 5 ak_217 := af_soundG (G := ag_217) (K := ak_217) (d := 4) pz_43 rfl rfl rfl rfl aw_217 ac_217 (af_HC ah_207 (by decide) (af_HC ah_216 (by decide) (af_HC ah_214 (by decide) (af_HC ah_209 (by decide) (af_HC ah_206 (by decide) af_HN)))))
def ag_218 : af_G := ((10, 3, none, mc_160), aw_Sh, [], 2, ak_218.2.2.2.1, ak_218.2.2.2.2, [], [], [])
set_option maxRecDepth 1000000 in
theorem ac_218 : af_meth 17 ag_218 ak_218.2.2.1 = true := by decide +kernel
theorem aw_218 : af_wfK ak_218.2.1 ak_218.2.2.1 ak_218.2.2.2.2 ag_218.2.2.2.2.2.2.1 = true := by decide +kernel
theorem ah_218 : af_Holds aw_Sh 1 ak_218 := af_soundG (G := ag_218) (K := ak_218) (d := 0) pz_160 rfl rfl rfl rfl aw_218 ac_218 af_HN
def ag_219 : af_G := ((4, 7, none, mc_42), aw_Sh, [ak_109, ak_206, ak_218], 2, ak_219.2.2.2.1, ak_219.2.2.2.2, [], [], [])
set_option maxRecDepth 1000000 in
theorem ac_219 : af_meth 93 ag_219 ak_219.2.2.1 = true := by decide +kernel
theorem aw_219 : af_wfK ak_219.2.1 ak_219.2.2.1 ak_219.2.2.2.2 ag_219.2.2.2.2.2.2.1 = true := by decide +kernel
theorem ah_219 : af_Holds aw_Sh 2 ak_219 := af_soundG (G := ag_219) (K := ak_219) (d := 1) pz_42 rfl rfl rfl rfl aw_219 ac_219 (af_HC ah_109 (by decide) (af_HC ah_206 (by decide) (af_HC ah_218 (by decide) af_HN)))
def ag_220 : af_G := ((4, 4, none, mc_48), aw_Sh, [ak_219, ak_101, ak_206, ak_218], 2, ak_220.2.2.2.1, ak_220.2.2.2.2, [(28, (3, [(0, .inr (.inl 13)), (1, .inl (0, [0])), (2, .inl (0, [1])), (3, .inl (0, [2]))], [], [], ([(2, 0, 6), (0, (-2147483648), 2147483647), (1, (-2147483648), 2147483647)], [], [])), [(1, 0, (0, [])), (2147483647, 1, (0, [2])), (0, 0, (0, []))])], [], [])
set_option maxRecDepth 1000000 in
theorem ac_220 : af_meth 33 ag_220 ak_220.2.2.1 = true := by decide +kernel
theorem aw_220 : af_wfK ak_220.2.1 ak_220.2.2.1 ak_220.2.2.2.2 ag_220.2.2.2.2.2.2.1 = true := by decide +kernel
theorem ah_220 : af_Holds aw_Sh 3 ak_220 := af_soundG (G := ag_220) (K := ak_220) (d := 2) pz_48 rfl rfl rfl rfl aw_220 ac_220 (af_HC ah_219 (by decide) (af_HC ah_101 (by decide) (af_HC ah_206 (by decide) (af_HC ah_218 (by decide) af_HN))))
def ag_221 : af_G := ((4, 3, none, mc_47), aw_Sh, [ak_123, ak_218], 1, ak_221.2.2.2.1, ak_221.2.2.2.2, [(2, (2, [(0, .inr (.inl 13)), (1, .inl (0, [0])), (2, .inl (0, [1]))], [], [], ([(1, 0, 6), (0, (-2147483648), 2147483647)], [], [])), [(1, 0, (0, [])), (2147483647, 1, (0, [1])), (0, 0, (0, []))])], [], [])
set_option maxRecDepth 1000000 in
theorem ac_221 : af_meth 25 ag_221 ak_221.2.2.1 = true := by decide +kernel
theorem aw_221 : af_wfK ak_221.2.1 ak_221.2.2.1 ak_221.2.2.2.2 ag_221.2.2.2.2.2.2.1 = true := by decide +kernel
theorem ah_221 : af_Holds aw_Sh 2 ak_221 := af_soundG (G := ag_221) (K := ak_221) (d := 1) pz_47 rfl rfl rfl rfl aw_221 ac_221 (af_HC ah_123 (by decide) (af_HC ah_218 (by decide) af_HN))
def ag_222 : af_G := ((4, 4, none, mc_41), aw_Sh, [ak_219, ak_206], 1, ak_222.2.2.2.1, ak_222.2.2.2.2, [(39, (3, [(0, .inr (.inl 13)), (1, .inl (0, [0])), (2, .inl (0, [1])), (3, .inl (0, [2]))], [], [], ([(1, (-2147483648), 2147483647), (2, 0, 6), (0, (-2147483648), 2147483647)], [], [])), [(1, 0, (0, [])), (2147483647, 1, (0, [2])), (0, 0, (0, []))])], [], [])
set_option maxRecDepth 1000000 in
theorem ac_222 : af_meth 28 ag_222 ak_222.2.2.1 = true := by decide +kernel
theorem aw_222 : af_wfK ak_222.2.1 ak_222.2.2.1 ak_222.2.2.2.2 ag_222.2.2.2.2.2.2.1 = true := by decide +kernel
theorem ah_222 : af_Holds aw_Sh 3 ak_222 := af_soundG (G := ag_222) (K := ak_222) (d := 2) pz_41 rfl rfl rfl rfl aw_222 ac_222 (af_HC ah_219 (by decide) (af_HC ah_206 (by decide) af_HN))
def ag_223 : af_G := ((4, 4, none, mc_46), aw_Sh, [ak_222, ak_221, ak_220, ak_206, ak_218], 3, ak_223.2.2.2.1, ak_223.2.2.2.2, [], [], [])
set_option maxRecDepth 1000000 in
theorem ac_223 : af_meth 27 ag_223 ak_223.2.2.1 = true := by decide +kernel
theorem aw_223 : af_wfK ak_223.2.1 ak_223.2.2.1 ak_223.2.2.2.2 ag_223.2.2.2.2.2.2.1 = true := by decide +kernel
theorem ah_223 : af_Holds aw_Sh 4 ak_223 := af_soundG (G := ag_223) (K := ak_223) (d := 3) pz_46 rfl rfl rfl rfl aw_223 ac_223 (af_HC ah_222 (by decide) (af_HC ah_221 (by decide) (af_HC ah_220 (by decide) (af_HC ah_206 (by decide) (af_HC ah_218 (by decide) af_HN)))))
def ag_224 : af_G := ((4, 6, none, mc_50), aw_Sh, [ak_207, ak_101, ak_123, ak_206, ak_218], 0, ak_224.2.2.2.1, ak_224.2.2.2.2, [(34, (4, [(0, .inr (.inl 13)), (1, .inl (0, [0])), (2, .inl (0, [1])), (3, .inl (0, [2])), (4, .inl (0, [3]))], [], [], ([(0, 0, 2147483647), (1, 0, 6), (2, 0, 6), (3, 0, 2147483647)], [], [])), [(2, 0, (0, [])), (2147483647, 1, (0, [3])), (0, 0, (0, [])), (1000, 0, (0, [])), (0, 0, (0, [])), (0, 0, (0, []))]),
  (43, (5, [(0, .inr (.inl 13)), (1, .inl (0, [0])), (2, .inl (0, [1])), (3, .inl (0, [2])), (4, .inl (0, [3])), (5, .inl (0, [4]))], [], [], ([(0, 0, 2147483647), (1, 0, 6), (2, 1, 6), (3, 0, 2147483646), (4, 0, 6)], [], [])), [(2, 0, (0, [])), (2147483647, 1, (0, [3])), (0, 0, (0, [])), (1, 0, (0, [])), (2147483647, 1, (0, [4])), (0, 0, (0, []))])], [], [])
set_option maxRecDepth 1000000 in
theorem ac_224 : af_meth 34 ag_224 ak_224.2.2.1 = true := by decide +kernel
theorem aw_224 : af_wfK ak_224.2.1 ak_224.2.2.1 ak_224.2.2.2.2 ag_224.2.2.2.2.2.2.1 = true := by decide +kernel
theorem ah_224 : af_Holds aw_Sh 3 ak_224 := af_soundG (G := ag_224) (K := ak_224) (d := 2) pz_50 rfl rfl rfl rfl aw_224 ac_224 (af_HC ah_207 (by decide) (af_HC ah_101 (by decide) (af_HC ah_123 (by decide) (af_HC ah_206 (by decide) (af_HC ah_218 (by decide) af_HN)))))
def ag_225 : af_G := ((4, 5, none, mc_51), aw_Sh, [ak_222, ak_215, ak_109, ak_206, ak_218], 1, ak_225.2.2.2.1, ak_225.2.2.2.2, [], [], [])
set_option maxRecDepth 1000000 in
theorem ac_225 : af_meth 72 ag_225 ak_225.2.2.1 = true := by decide +kernel
theorem aw_225 : af_wfK ak_225.2.1 ak_225.2.2.1 ak_225.2.2.2.2 ag_225.2.2.2.2.2.2.1 = true := by decide +kernel
theorem ah_225 : af_Holds aw_Sh 4 ak_225 := af_soundG (G := ag_225) (K := ak_225) (d := 3) pz_51 rfl rfl rfl rfl aw_225 ac_225 (af_HC ah_222 (by decide) (af_HC ah_215 (by decide) (af_HC ah_109 (by decide) (af_HC ah_206 (by decide) (af_HC ah_218 (by decide) af_HN)))))
