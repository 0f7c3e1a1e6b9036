/-! the checks; by program -/
def ag_120 : af_G := ((10, 3, (some .int), mc_115), aw_Sh, [ak_119, ak_117, ak_109], 2, ak_120.2.2.2.1, ak_120.2.2.2.2, [], [], [])
set_option maxRecDepth 1000000 in
theorem ac_120 : af_meth 21 ag_120 ak_120.2.2.1 = true := by decide +kernel
def ag_121 : af_G := ((4, 4, (some .int), mc_67), aw_Sh, [ak_101, ak_108], 1, ak_121.2.2.2.1, ak_121.2.2.2.2, [(4, (3, [(0, .inr (.inl 11)), (1, .inl (0, [0])), (2, .inl (0, [1])), (3, .inl (0, [2]))], [], [], ([(1, (-2147483648), 2147483647), (2, 0, 6), (0, (-2147483648), 2147483647)], [], [])), [(1, 0, (0, [])), (2147483647, 1, (0, [2])), (0, 0, (0, []))])], [], [])
set_option maxRecDepth 1000000 in
theorem ac_121 : af_meth 28 ag_121 ak_121.2.2.1 = true := by decide +kernel
def ag_122 : af_G := ((10, 3, (some .int), mc_116), aw_Sh, [ak_121, ak_117, ak_108, ak_109], 2, ak_122.2.2.2.1, ak_122.2.2.2.2, [], [], [])
set_option maxRecDepth 1000000 in
theorem ac_122 : af_meth 21 ag_122 ak_122.2.2.1 = true := by decide +kernel
def ag_123 : af_G := ((10, 2, (some .int), mc_159), aw_Sh, [], 1, ak_123.2.2.2.1, ak_123.2.2.2.2, [], [], [])
set_option maxRecDepth 1000000 in
theorem ac_123 : af_meth 17 ag_123 ak_123.2.2.1 = true := by decide +kernel
def ag_124 : af_G := ((10, 2, (some .int), mc_159), aw_Sh, [], 0, ak_124.2.2.2.1, ak_124.2.2.2.2, [], [], [])
set_option maxRecDepth 1000000 in
theorem ac_124 : af_meth 17 ag_124 ak_124.2.2.1 = true := by decide +kernel
def ag_125 : af_G := ((10, 2, (some .int), mc_159), aw_Sh, [], 1, ak_125.2.2.2.1, ak_125.2.2.2.2, [], [], [])
set_option maxRecDepth 1000000 in
theorem ac_125 : af_meth 17 ag_125 ak_125.2.2.1 = true := by decide +kernel
def ag_126 : af_G := ((10, 2, (some .int), mc_159), aw_Sh, [], 1, ak_126.2.2.2.1, ak_126.2.2.2.2, [], [], [])
set_option maxRecDepth 1000000 in
theorem ac_126 : af_meth 17 ag_126 ak_126.2.2.1 = true := by decide +kernel
def ag_127 : af_G := ((4, 5, (some .int), mc_56), aw_Sh, [ak_124, ak_125, ak_126, ak_123, ak_108], 1, ak_127.2.2.2.1, ak_127.2.2.2.2, [(14, (4, [(0, .inr (.inl 11)), (1, .inl (0, [0])), (2, .inl (0, [1])), (3, .inl (0, [2])), (4, .inl (0, [3]))], [], [], ([(1, (-2147483648), 2147483647), (2, 0, 6), (3, 0, 6), (0, (-2147483648), 2147483647)], [], [])), [(1, 0, (0, [])), (2147483647, 1, (0, [3])), (0, 0, (0, []))])], [], [])
set_option maxRecDepth 1000000 in
theorem ac_127 : af_meth 34 ag_127 ak_127.2.2.1 = true := by decide +kernel
def ag_128 : af_G := ((10, 2, (some .int), mc_159), aw_Sh, [], 0, ak_128.2.2.2.1, ak_128.2.2.2.2, [], [], [])
set_option maxRecDepth 1000000 in
theorem ac_128 : af_meth 17 ag_128 ak_128.2.2.1 = true := by decide +kernel
def ag_129 : af_G := ((10, 2, (some .int), mc_159), aw_Sh, [], 1, ak_129.2.2.2.1, ak_129.2.2.2.2, [], [], [])
set_option maxRecDepth 1000000 in
theorem ac_129 : af_meth 17 ag_129 ak_129.2.2.1 = true := by decide +kernel
def ag_130 : af_G := ((10, 2, (some .int), mc_159), aw_Sh, [], 1, ak_130.2.2.2.1, ak_130.2.2.2.2, [], [], [])
set_option maxRecDepth 1000000 in
theorem ac_130 : af_meth 17 ag_130 ak_130.2.2.1 = true := by decide +kernel
def ag_131 : af_G := ((4, 5, (some .int), mc_57), aw_Sh, [ak_128, ak_129, ak_130], 1, ak_131.2.2.2.1, ak_131.2.2.2.2, [(4, (3, [(0, .inr (.inl 11)), (1, .inl (0, [0])), (2, .inl (0, [1])), (3, .inl (0, [2]))], [], [], ([(1, (-2147483648), 2147483647), (2, 0, 6), (0, (-2147483648), 2147483647)], [], [])), [(1, 0, (0, [])), (2147483647, 1, (0, [2])), (0, 0, (0, []))])], [], [])
set_option maxRecDepth 1000000 in
theorem ac_131 : af_meth 39 ag_131 ak_131.2.2.1 = true := by decide +kernel
def ag_132 : af_G := ((4, 1, (some .int), mc_38), aw_Sh, [ak_108], 0, ak_132.2.2.2.1, ak_132.2.2.2.2, [], [], [])
set_option maxRecDepth 1000000 in
theorem ac_132 : af_meth 11 ag_132 ak_132.2.2.1 = true := by decide +kernel
def ag_133 : af_G := ((4, 5, (some .int), mc_55), aw_Sh, [ak_108, ak_109], 2, ak_133.2.2.2.1, ak_133.2.2.2.2, [], [], [])
set_option maxRecDepth 1000000 in
theorem ac_133 : af_meth 35 ag_133 ak_133.2.2.1 = true := by decide +kernel
def ag_134 : af_G := ((4, 7, (some .int), mc_59), aw_Sh, [ak_132, ak_133, ak_127, ak_131, ak_128, ak_129, ak_130, ak_123], 1, ak_134.2.2.2.1, ak_134.2.2.2.2, [(41, (6, [(0, .inr (.inl 11)), (1, .inl (0, [0])), (2, .inl (0, [1])), (3, .inl (0, [2])), (4, .inl (0, [3])), (5, .inl (0, [4])), (6, .inl (0, [5]))], [], [], ([(1, (-2147483648), 2147483647), (2, 1, 2), (3, (-2147483648), 2147483647), (4, 0, 6), (5, 0, 6), (0, (-2147483648), 2147483647)], [], [])), [(1, 0, (0, [])), (2147483647, 1, (0, [5])), (0, 0, (0, []))])], [], [])
set_option maxRecDepth 1000000 in
theorem ac_134 : af_meth 37 ag_134 ak_134.2.2.1 = true := by decide +kernel
def ag_135 : af_G := ((4, 3, (some .int), mc_62), aw_Sh, [ak_134, ak_101], 0, ak_135.2.2.2.1, ak_135.2.2.2.2, [(4, (2, [(0, .inr (.inl 11)), (1, .inl (0, [0])), (2, .inl (0, [1]))], [], [], ([(0, (-2147483648), 2147483647), (1, 0, 6)], [], [])), [(1, 0, (0, [])), (2147483647, 1, (0, [1])), (0, 0, (0, []))])], [], [])
set_option maxRecDepth 1000000 in
theorem ac_135 : af_meth 24 ag_135 ak_135.2.2.1 = true := by decide +kernel
def ag_136 : af_G := ((4, 3, (some .int), mc_66), aw_Sh, [ak_101, ak_108], 0, ak_136.2.2.2.1, ak_136.2.2.2.2, [(4, (2, [(0, .inr (.inl 11)), (1, .inl (0, [0])), (2, .inl (0, [1]))], [], [], ([(0, (-2147483648), 2147483647), (1, 0, 6)], [], [])), [(1, 0, (0, [])), (2147483647, 1, (0, [1])), (0, 0, (0, []))])], [], [])
set_option maxRecDepth 1000000 in
theorem ac_136 : af_meth 25 ag_136 ak_136.2.2.1 = true := by decide +kernel
def ag_137 : af_G := ((4, 3, (some .int), mc_65), aw_Sh, [ak_101, ak_108], 0, ak_137.2.2.2.1, ak_137.2.2.2.2, [(4, (2, [(0, .inr (.inl 11)), (1, .inl (0, [0])), (2, .inl (0, [1]))], [], [], ([(0, (-2147483648), 2147483647), (1, 0, 6)], [], [])), [(1, 0, (0, [])), (2147483647, 1, (0, [1])), (0, 0, (0, []))])], [], [])
set_option maxRecDepth 1000000 in
theorem ac_137 : af_meth 23 ag_137 ak_137.2.2.1 = true := by decide +kernel
def ag_138 : af_G := ((12, 1, (some .int), mc_285), aw_Sh, [], 1, ak_138.2.2.2.1, ak_138.2.2.2.2, [], [], [])
set_option maxRecDepth 1000000 in
theorem ac_138 : af_meth 48 ag_138 ak_138.2.2.1 = true := by decide +kernel
def ag_139 : af_G := ((4, 3, (some .int), mc_64), aw_Sh, [ak_97, ak_108, ak_138], 0, ak_139.2.2.2.1, ak_139.2.2.2.2, [(4, (2, [(0, .inr (.inl 11)), (1, .inl (0, [0])), (2, .inl (0, [1]))], [], [], ([(0, (-2147483648), 2147483647), (1, 0, 10)], [], [])), [(1, 0, (0, [])), (2147483647, 1, (0, [1])), (0, 0, (0, []))])], [], [])
set_option maxRecDepth 1000000 in
theorem ac_139 : af_meth 24 ag_139 ak_139.2.2.1 = true := by decide +kernel
def ag_140 : af_G := ((10, 2, (some .int), mc_117), aw_Sh, [ak_132, ak_135, ak_139, ak_137, ak_136, ak_108], 1, ak_140.2.2.2.1, ak_140.2.2.2.2, [], [], [])
set_option maxRecDepth 1000000 in
theorem ac_140 : af_meth 14 ag_140 ak_140.2.2.1 = true := by decide +kernel
def ag_141 : af_G := ((4, 3, (some .int), mc_39), aw_Sh, [ak_108], 2, ak_141.2.2.2.1, ak_141.2.2.2.2, [], [], [])
set_option maxRecDepth 1000000 in
theorem ac_141 : af_meth 17 ag_141 ak_141.2.2.1 = true := by decide +kernel
def ag_142 : af_G := ((4, 4, (some .int), mc_63), aw_Sh, [ak_141, ak_123], 1, ak_142.2.2.2.1, ak_142.2.2.2.2, [(4, (3, [(0, .inr (.inl 11)), (1, .inl (0, [0])), (2, .inl (0, [1])), (3, .inl (0, [2]))], [], [], ([(1, (-2147483648), 2147483647), (2, 0, 6), (0, (-2147483648), 2147483647)], [], [])), [(1, 0, (0, [])), (2147483647, 1, (0, [2])), (0, 0, (0, []))])], [], [])
set_option maxRecDepth 1000000 in
theorem ac_142 : af_meth 21 ag_142 ak_142.2.2.1 = true := by decide +kernel
def ag_143 : af_G := ((10, 2, (some .int), mc_159), aw_Sh, [], 0, ak_143.2.2.2.1, ak_143.2.2.2.2, [], [], [])
set_option maxRecDepth 1000000 in
theorem ac_143 : af_meth 17 ag_143 ak_143.2.2.1 = true := by decide +kernel
def ag_144 : af_G := ((10, 2, (some .int), mc_159), aw_Sh, [], 1, ak_144.2.2.2.1, ak_144.2.2.2.2, [], [], [])
set_option maxRecDepth 1000000 in
theorem ac_144 : af_meth 17 ag_144 ak_144.2.2.1 = true := by decide +kernel
def ag_145 : af_G := ((10, 2, (some .int), mc_159), aw_Sh, [], 1, ak_145.2.2.2.1, ak_145.2.2.2.2, [], [], [])
set_option maxRecDepth 1000000 in
theorem ac_145 : af_meth 17 ag_145 ak_145.2.2.1 = true := by decide +kernel
def ag_146 : af_G := ((4, 5, (some .int), mc_60), aw_Sh, [ak_134, ak_143, ak_144, ak_145], 1, ak_146.2.2.2.1, ak_146.2.2.2.2, [(11, (4, [(0, .inr (.inl 11)), (1, .inl (0, [0])), (2, .inl (0, [1])), (3, .inl (0, [2])), (4, .inl (0, [3]))], [], [], ([(1, (-2147483648), 2147483647), (2, (-2147483648), 2147483647), (3, 0, 6), (0, (-2147483648), 2147483647)], [], [])), [(1, 0, (0, [])), (2147483647, 1, (0, [3])), (0, 0, (0, []))])], [], [])
set_option maxRecDepth 1000000 in
theorem ac_146 : af_meth 31 ag_146 ak_146.2.2.1 = true := by decide +kernel
def ag_147 : af_G := ((10, 2, (some .int), mc_159), aw_Sh, [], 0, ak_147.2.2.2.1, ak_147.2.2.2.2, [], [], [])
set_option maxRecDepth 1000000 in
theorem ac_147 : af_meth 17 ag_147 ak_147.2.2.1 = true := by decide +kernel
def ag_148 : af_G := ((4, 3, (some .boolean), mc_45), aw_Sh, [ak_147, ak_108, ak_109], 2, ak_148.2.2.2.1, ak_148.2.2.2.2, [], [], [])
set_option maxRecDepth 1000000 in
theorem ac_148 : af_meth 26 ag_148 ak_148.2.2.1 = true := by decide +kernel
def ag_149 : af_G := ((4, 3, (some .int), mc_44), aw_Sh, [ak_148, ak_108], 2, ak_149.2.2.2.1, ak_149.2.2.2.2, [], [], [])
set_option maxRecDepth 1000000 in
theorem ac_149 : af_meth 22 ag_149 ak_149.2.2.1 = true := by decide +kernel
def ag_150 : af_G := ((4, 4, (some .int), mc_43), aw_Sh, [ak_132, ak_149, ak_146, ak_142, ak_108], 3, ak_150.2.2.2.1, ak_150.2.2.2.2, [], [], [])
set_option maxRecDepth 1000000 in
theorem ac_150 : af_meth 19 ag_150 ak_150.2.2.1 = true := by decide +kernel
def ag_151 : af_G := ((5, 2, none, mc_72), aw_Sh, [], 0, ak_151.2.2.2.1, ak_151.2.2.2.2, [], [], [])
set_option maxRecDepth 1000000 in
theorem ac_151 : af_meth 38 ag_151 ak_151.2.2.1 = true := by decide +kernel
def ag_152 : af_G := ((4, 4, none, mc_48), aw_Sh, [ak_110, ak_101, ak_108, ak_99], 2, ak_152.2.2.2.1, ak_152.2.2.2.2, [(28, (3, [(0, .inr (.inl 11)), (1, .inl (0, [0])), (2, .inl (0, [1])), (3, .inl (0, [2]))], [], [], ([(2, 0, 6), (0, (-2147483648), 2147483647), (1, (-2147483648), 2147483647)], [], [])), [(1, 0, (0, [])), (2147483647, 1, (0, [2])), (0, 0, (0, []))])], [], [])
set_option maxRecDepth 1000000 in
theorem ac_152 : af_meth 33 ag_152 ak_152.2.2.1 = true := by decide +kernel
def ag_153 : af_G := ((4, 3, none, mc_47), aw_Sh, [ak_123, ak_99], 1, ak_153.2.2.2.1, ak_153.2.2.2.2, [(2, (2, [(0, .inr (.inl 11)), (1, .inl (0, [0])), (2, .inl (0, [1]))], [], [], ([(1, 0, 6), (0, (-2147483648), 2147483647)], [], [])), [(1, 0, (0, [])), (2147483647, 1, (0, [1])), (0, 0, (0, []))])], [], [])
set_option maxRecDepth 1000000 in
theorem ac_153 : af_meth 25 ag_153 ak_153.2.2.1 = true := by decide +kernel
def ag_154 : af_G := ((4, 4, none, mc_46), aw_Sh, [ak_111, ak_153, ak_152, ak_108, ak_99], 3, ak_154.2.2.2.1, ak_154.2.2.2.2, [], [], [])
set_option maxRecDepth 1000000 in
theorem ac_154 : af_meth 27 ag_154 ak_154.2.2.1 = true := by decide +kernel
def ag_155 : af_G := ((10, 5, (some .int), mc_156), aw_Sh, [ak_150, ak_154, ak_151], 3, ak_155.2.2.2.1, ak_155.2.2.2.2, [], [], [])
set_option maxRecDepth 1000000 in
theorem ac_155 : af_meth 29 ag_155 ak_155.2.2.1 = true := by decide +kernel
def ag_156 : af_G := ((10, 3, (some .int), mc_118), aw_Sh, [ak_117, ak_155], 2, ak_156.2.2.2.1, ak_156.2.2.2.2, [], [], [])
set_option maxRecDepth 1000000 in
theorem ac_156 : af_meth 23 ag_156 ak_156.2.2.1 = true := by decide +kernel
def ag_157 : af_G := ((10, 3, (some .int), mc_119), aw_Sh, [ak_117, ak_155], 2, ak_157.2.2.2.1, ak_157.2.2.2.2, [], [], [])
set_option maxRecDepth 1000000 in
theorem ac_157 : af_meth 23 ag_157 ak_157.2.2.1 = true := by decide +kernel
def ag_158 : af_G := ((10, 3, (some .int), mc_120), aw_Sh, [ak_117, ak_155], 2, ak_158.2.2.2.1, ak_158.2.2.2.2, [], [], [])
set_option maxRecDepth 1000000 in
theorem ac_158 : af_meth 26 ag_158 ak_158.2.2.1 = true := by decide +kernel
def ag_159 : af_G := ((10, 2, (some .int), mc_121), aw_Sh, [ak_117, ak_155], 1, ak_159.2.2.2.1, ak_159.2.2.2.2, [], [], [])
set_option maxRecDepth 1000000 in
theorem ac_159 : af_meth 18 ag_159 ak_159.2.2.1 = true := by decide +kernel
def ag_160 : af_G := ((10, 3, (some .int), mc_122), aw_Sh, [ak_117, ak_155], 2, ak_160.2.2.2.1, ak_160.2.2.2.2, [], [], [])
set_option maxRecDepth 1000000 in
theorem ac_160 : af_meth 23 ag_160 ak_160.2.2.1 = true := by decide +kernel
def ag_161 : af_G := ((10, 2, (some .int), mc_123), aw_Sh, [ak_117, ak_155], 1, ak_161.2.2.2.1, ak_161.2.2.2.2, [], [], [])
set_option maxRecDepth 1000000 in
theorem ac_161 : af_meth 18 ag_161 ak_161.2.2.1 = true := by decide +kernel
def ag_162 : af_G := ((4, 6, none, mc_50), aw_Sh, [ak_132, ak_101, ak_123, ak_108, ak_99], 0, ak_162.2.2.2.1, ak_162.2.2.2.2, [(34, (4, [(0, .inr (.inl 11)), (1, .inl (0, [0])), (2, .inl (0, [1])), (3, .inl (0, [2])), (4, .inl (0, [3]))], [], [], ([(0, 0, 2147483647), (1, 0, 6), (2, 0, 6), (3, 0, 2147483647)], [], [])), [(2, 0, (0, [])), (2147483647, 1, (0, [3])), (0, 0, (0, [])), (1000, 0, (0, [])), (0, 0, (0, [])), (0, 0, (0, []))]),
  (43, (5, [(0, .inr (.inl 11)), (1, .inl (0, [0])), (2, .inl (0, [1])), (3, .inl (0, [2])), (4, .inl (0, [3])), (5, .inl (0, [4]))], [], [], ([(0, 0, 2147483647), (1, 0, 6), (2, 1, 6), (3, 0, 2147483646), (4, 0, 6)], [], [])), [(2, 0, (0, [])), (2147483647, 1, (0, [3])), (0, 0, (0, [])), (1, 0, (0, [])), (2147483647, 1, (0, [4])), (0, 0, (0, []))])], [], [])
set_option maxRecDepth 1000000 in
theorem ac_162 : af_meth 34 ag_162 ak_162.2.2.1 = true := by decide +kernel
def ag_163 : af_G := ((4, 5, none, mc_51), aw_Sh, [ak_111, ak_148, ak_108, ak_109, ak_99], 1, ak_163.2.2.2.1, ak_163.2.2.2.2, [], [], [])
set_option maxRecDepth 1000000 in
theorem ac_163 : af_meth 72 ag_163 ak_163.2.2.1 = true := by decide +kernel
def ag_164 : af_G := ((4, 5, none, mc_49), aw_Sh, [ak_132, ak_162, ak_163, ak_101, ak_99], 1, ak_164.2.2.2.1, ak_164.2.2.2.2, [(11, (3, [(0, .inr (.inl 11)), (1, .inl (0, [0])), (2, .inl (0, [1])), (3, .inl (0, [2]))], [], [], ([(1, 0, 2147483646), (2, 0, 2147483647), (0, (-2147483648), 2147483647)], [], [])), [(3, 0, (0, [])), (2147483647, 1, (0, [2])), (0, 0, (0, [])), (1000, 0, (0, [])), (0, 0, (0, [])), (0, 0, (0, []))]),
  (47, (4, [(0, .inr (.inl 11)), (1, .inl (0, [0])), (2, .inl (0, [1])), (3, .inl (0, [2])), (4, .inl (0, [3]))], [], [], ([(1, 0, 2147483646), (2, 0, 2147483646), (3, 0, 2147483646), (0, 1, 2147483647)], [], [])), [(3, 0, (0, [])), (2147483647, 1, (0, [2])), (0, 0, (0, [])), (2, 0, (0, [])), (2147483647, 1, (0, [3])), (0, 0, (0, []))]),
  (75, (4, [(0, .inr (.inl 11)), (1, .inl (0, [0])), (2, .inl (0, [1])), (3, .inl (0, [2])), (4, .inl (0, [3]))], [], [], ([(1, 0, 2147483646), (2, 0, 2147483646), (3, 0, 2147483646), (0, 1, 2147483647)], [], [])), [(3, 0, (0, [])), (2147483647, 1, (0, [2])), (0, 0, (0, [])), (1, 0, (0, [])), (2147483647, 1, (0, [3])), (0, 0, (0, []))])], [], [])
set_option maxRecDepth 1000000 in
theorem ac_164 : af_meth 25 ag_164 ak_164.2.2.1 = true := by decide +kernel
def ag_165 : af_G := ((10, 3, (some .int), mc_124), aw_Sh, [ak_132, ak_164, ak_151], 1, ak_165.2.2.2.1, ak_165.2.2.2.2, [], [], [])
set_option maxRecDepth 1000000 in
theorem ac_165 : af_meth 34 ag_165 ak_165.2.2.1 = true := by decide +kernel
def ag_166 : af_G := ((5, 2, (some .int), mc_73), aw_Sh, [], 0, ak_166.2.2.2.1, ak_166.2.2.2.2, [], [], [])
set_option maxRecDepth 1000000 in
theorem ac_166 : af_meth 41 ag_166 ak_166.2.2.1 = true := by decide +kernel
def ag_167 : af_G := ((10, 1, (some .int), mc_125), aw_Sh, [ak_166], 0, ak_167.2.2.2.1, ak_167.2.2.2.2, [], [], [])
set_option maxRecDepth 1000000 in
theorem ac_167 : af_meth 13 ag_167 ak_167.2.2.1 = true := by decide +kernel
def ag_168 : af_G := ((10, 3, (some .boolean), mc_154), aw_Sh, [ak_117], 2, ak_168.2.2.2.1, ak_168.2.2.2.2, [], [], [])
set_option maxRecDepth 1000000 in
theorem ac_168 : af_meth 19 ag_168 ak_168.2.2.1 = true := by decide +kernel
def ag_169 : af_G := ((10, 3, (some .int), mc_126), aw_Sh, [ak_141, ak_168], 2, ak_169.2.2.2.1, ak_169.2.2.2.2, [], [], [])
set_option maxRecDepth 1000000 in
theorem ac_169 : af_meth 18 ag_169 ak_169.2.2.1 = true := by decide +kernel
def ag_170 : af_G := ((10, 3, (some .int), mc_127), aw_Sh, [ak_133, ak_168], 2, ak_170.2.2.2.1, ak_170.2.2.2.2, [], [], [])
set_option maxRecDepth 1000000 in
theorem ac_170 : af_meth 18 ag_170 ak_170.2.2.1 = true := by decide +kernel
def ag_171 : af_G := ((10, 2, (some .int), mc_128), aw_Sh, [ak_134, ak_117], 1, ak_171.2.2.2.1, ak_171.2.2.2.2, [], [], [])
set_option maxRecDepth 1000000 in
theorem ac_171 : af_meth 17 ag_171 ak_171.2.2.1 = true := by decide +kernel
def ag_172 : af_G := ((10, 2, (some .int), mc_129), aw_Sh, [ak_146, ak_117], 1, ak_172.2.2.2.1, ak_172.2.2.2.2, [], [], [])
set_option maxRecDepth 1000000 in
theorem ac_172 : af_meth 17 ag_172 ak_172.2.2.1 = true := by decide +kernel
def ag_173 : af_G := ((4, 3, (some .int), mc_58), aw_Sh, [ak_127, ak_131], 1, ak_173.2.2.2.1, ak_173.2.2.2.2, [], [], [])
set_option maxRecDepth 1000000 in
theorem ac_173 : af_meth 16 ag_173 ak_173.2.2.1 = true := by decide +kernel
def ag_174 : af_G := ((10, 2, (some .int), mc_130), aw_Sh, [ak_173, ak_117], 1, ak_174.2.2.2.1, ak_174.2.2.2.2, [], [], [])
set_option maxRecDepth 1000000 in
theorem ac_174 : af_meth 17 ag_174 ak_174.2.2.1 = true := by decide +kernel
def ag_175 : af_G := ((4, 4, (some .int), mc_61), aw_Sh, [ak_134, ak_101], 1, ak_175.2.2.2.1, ak_175.2.2.2.2, [(4, (3, [(0, .inr (.inl 11)), (1, .inl (0, [0])), (2, .inl (0, [1])), (3, .inl (0, [2]))], [], [], ([(1, (-2147483648), 2147483647), (2, 0, 6), (0, (-2147483648), 2147483647)], [], [])), [(1, 0, (0, [])), (2147483647, 1, (0, [2])), (0, 0, (0, []))])], [], [])
set_option maxRecDepth 1000000 in
theorem ac_175 : af_meth 26 ag_175 ak_175.2.2.1 = true := by decide +kernel
def ag_176 : af_G := ((10, 2, (some .int), mc_131), aw_Sh, [ak_175, ak_117], 1, ak_176.2.2.2.1, ak_176.2.2.2.2, [], [], [])
set_option maxRecDepth 1000000 in
theorem ac_176 : af_meth 17 ag_176 ak_176.2.2.1 = true := by decide +kernel
def ag_177 : af_G := ((4, 3, (some .int), mc_40), aw_Sh, [ak_108], 2, ak_177.2.2.2.1, ak_177.2.2.2.2, [], [], [])
set_option maxRecDepth 1000000 in
theorem ac_177 : af_meth 17 ag_177 ak_177.2.2.1 = true := by decide +kernel
def ag_178 : af_G := ((10, 3, (some .int), mc_132), aw_Sh, [ak_132, ak_141, ak_177, ak_168], 2, ak_178.2.2.2.1, ak_178.2.2.2.2, [], [], [])
set_option maxRecDepth 1000000 in
theorem ac_178 : af_meth 31 ag_178 ak_178.2.2.1 = true := by decide +kernel
def ag_179 : af_G := ((10, 3, (some .boolean), mc_153), aw_Sh, [ak_109], 2, ak_179.2.2.2.1, ak_179.2.2.2.2, [], [], [])
set_option maxRecDepth 1000000 in
theorem ac_179 : af_meth 20 ag_179 ak_179.2.2.1 = true := by decide +kernel
def ag_180 : af_G := ((10, 3, none, mc_160), aw_Sh, [], 2, ak_180.2.2.2.1, ak_180.2.2.2.2, [], [], [])
set_option maxRecDepth 1000000 in
theorem ac_180 : af_meth 17 ag_180 ak_180.2.2.1 = true := by decide +kernel
def ag_181 : af_G := ((10, 2, (some .int), mc_159), aw_Sh, [], 1, ak_181.2.2.2.1, ak_181.2.2.2.2, [], [], [])
set_option maxRecDepth 1000000 in
theorem ac_181 : af_meth 17 ag_181 ak_181.2.2.1 = true := by decide +kernel
def ag_182 : af_G := ((10, 2, (some .int), mc_159), aw_Sh, [], 1, ak_182.2.2.2.1, ak_182.2.2.2.2, [], [], [])
set_option maxRecDepth 1000000 in
theorem ac_182 : af_meth 17 ag_182 ak_182.2.2.1 = true := by decide +kernel
def ag_183 : af_G := ((6, 4, (some .int), mc_76), aw_Sh, [ak_147, ak_181, ak_182, ak_97], 1, ak_183.2.2.2.1, ak_183.2.2.2.2, [(4, (3, [(0, .inr (.inl 32)), (1, .inl (0, [0])), (2, .inl (0, [1])), (3, .inl (0, [2]))], [], [], ([(1, (-2147483648), 2147483647), (2, 0, 10), (0, (-2147483648), 2147483647)], [], [])), [(1, 0, (0, [])), (2147483647, 1, (0, [2])), (0, 0, (0, []))])], [], [])
set_option maxRecDepth 1000000 in
theorem ac_183 : af_meth 30 ag_183 ak_183.2.2.1 = true := by decide +kernel
def ag_184 : af_G := ((10, 2, (some .int), mc_159), aw_Sh, [], 1, ak_184.2.2.2.1, ak_184.2.2.2.2, [], [], [])
set_option maxRecDepth 1000000 in
theorem ac_184 : af_meth 17 ag_184 ak_184.2.2.1 = true := by decide +kernel
def ag_185 : af_G := ((6, 2, (some .int), mc_78), aw_Sh, [], 1, ak_185.2.2.2.1, ak_185.2.2.2.2, [(2, (2, [(0, .inl (0, [0])), (1, .inl (0, [1]))], [], [], ([(1, 0, 10), (0, (-2147483648), 2147483647)], [], [])), [(1, 0, (0, [])), (2147483647, 1, (0, [1])), (0, 0, (0, []))])], [], [])
set_option maxRecDepth 1000000 in
theorem ac_185 : af_meth 18 ag_185 ak_185.2.2.1 = true := by decide +kernel
def ag_186 : af_G := ((10, 3, none, mc_160), aw_Sh, [], 2, ak_186.2.2.2.1, ak_186.2.2.2.2, [], [], [])
set_option maxRecDepth 1000000 in
theorem ac_186 : af_meth 17 ag_186 ak_186.2.2.1 = true := by decide +kernel
def ag_187 : af_G := ((6, 6, none, mc_77), aw_Sh, [ak_185, ak_109, ak_184, ak_186], 2, ak_187.2.2.2.1, ak_187.2.2.2.2, [(10, (4, [(0, .inr (.inl 32)), (1, .inl (0, [0])), (2, .inl (0, [1])), (3, .inl (0, [2])), (4, .inl (0, [3]))], [], [((32, 3), (0, [1]))], ([(2, (-2147483648), 2147483647), (3, 0, 2147483647), (0, (-2147483648), 2147483647), (1, (-2147483648), 2147483647)], [], [])), [(1, 0, (0, [])), (2147483647, 1, (0, [3])), (0, 0, (0, []))])], [], [])
set_option maxRecDepth 1000000 in
theorem ac_187 : af_meth 35 ag_187 ak_187.2.2.1 = true := by decide +kernel
def ag_188 : af_G := ((6, 8, (some .int), mc_75), aw_Sh, [ak_183, ak_187, ak_180], 3, ak_188.2.2.2.1, ak_188.2.2.2.2, [(35, (6, [(0, .inr (.inl 32)), (1, .inl (0, [0])), (2, .inl (0, [1])), (3, .inl (0, [2])), (4, .inl (0, [3])), (5, .inl (0, [4])), (6, .inl (0, [5]))], [], [], ([(3, (-2147483648), 2147483647), (4, (-2147483648), 2147483647), (5, 1, 10), (0, (-2147483648), 2147483647), (1, (-2147483648), 2147483647), (2, (-2147483648), 2147483647)], [], [])), [(1, 0, (0, [])), (2147483647, 1, (0, [5])), (0, 0, (0, []))])], [], [])
set_option maxRecDepth 1000000 in
theorem ac_188 : af_meth 43 ag_188 ak_188.2.2.1 = true := by decide +kernel
def ag_189 : af_G := ((10, 4, (some .int), mc_133), aw_Sh, [ak_118, ak_188, ak_117, ak_179, ak_108], 3, ak_189.2.2.2.1, ak_189.2.2.2.2, [], [], [])
set_option maxRecDepth 1000000 in
theorem ac_189 : af_meth 37 ag_189 ak_189.2.2.1 = true := by decide +kernel
def ag_190 : af_G := ((10, 2, (some .int), mc_159), aw_Sh, [], 1, ak_190.2.2.2.1, ak_190.2.2.2.2, [], [], [])
set_option maxRecDepth 1000000 in
theorem ac_190 : af_meth 17 ag_190 ak_190.2.2.1 = true := by decide +kernel
def ag_191 : af_G := ((10, 2, (some .int), mc_134), aw_Sh, [ak_190], 1, ak_191.2.2.2.1, ak_191.2.2.2.2, [], [], [])
set_option maxRecDepth 1000000 in
theorem ac_191 : af_meth 20 ag_191 ak_191.2.2.1 = true := by decide +kernel
def ag_192 : af_G := ((10, 3, none, mc_160), aw_Sh, [], 2, ak_192.2.2.2.1, ak_192.2.2.2.2, [], [], [])
set_option maxRecDepth 1000000 in
theorem ac_192 : af_meth 17 ag_192 ak_192.2.2.1 = true := by decide +kernel
def ag_193 : af_G := ((6, 4, (some .int), mc_76), aw_Sh, [ak_147, ak_181, ak_182, ak_97], 1, ak_193.2.2.2.1, ak_193.2.2.2.2, [(4, (3, [(0, .inr (.inl 35)), (1, .inl (0, [0])), (2, .inl (0, [1])), (3, .inl (0, [2]))], [], [], ([(1, (-2147483648), 2147483647), (2, 0, 10), (0, (-2147483648), 2147483647)], [], [])), [(1, 0, (0, [])), (2147483647, 1, (0, [2])), (0, 0, (0, []))])], [], [])
set_option maxRecDepth 1000000 in
theorem ac_193 : af_meth 30 ag_193 ak_193.2.2.1 = true := by decide +kernel
def ag_194 : af_G := ((10, 2, (some .int), mc_159), aw_Sh, [], 1, ak_194.2.2.2.1, ak_194.2.2.2.2, [], [], [])
set_option maxRecDepth 1000000 in
theorem ac_194 : af_meth 17 ag_194 ak_194.2.2.1 = true := by decide +kernel
def ag_195 : af_G := ((10, 3, none, mc_160), aw_Sh, [], 2, ak_195.2.2.2.1, ak_195.2.2.2.2, [], [], [])
set_option maxRecDepth 1000000 in
theorem ac_195 : af_meth 17 ag_195 ak_195.2.2.1 = true := by decide +kernel
def ag_196 : af_G := ((6, 6, none, mc_77), aw_Sh, [ak_185, ak_109, ak_194, ak_195], 2, ak_196.2.2.2.1, ak_196.2.2.2.2, [(10, (4, [(0, .inr (.inl 35)), (1, .inl (0, [0])), (2, .inl (0, [1])), (3, .inl (0, [2])), (4, .inl (0, [3]))], [], [((35, 3), (0, [1]))], ([(2, (-2147483648), 2147483647), (3, 0, 2147483647), (0, (-2147483648), 2147483647), (1, (-2147483648), 2147483647)], [], [])), [(1, 0, (0, [])), (2147483647, 1, (0, [3])), (0, 0, (0, []))])], [], [])
set_option maxRecDepth 1000000 in
theorem ac_196 : af_meth 35 ag_196 ak_196.2.2.1 = true := by decide +kernel
def ag_197 : af_G := ((6, 8, (some .int), mc_75), aw_Sh, [ak_193, ak_196, ak_192], 3, ak_197.2.2.2.1, ak_197.2.2.2.2, [(35, (6, [(0, .inr (.inl 35)), (1, .inl (0, [0])), (2, .inl (0, [1])), (3, .inl (0, [2])), (4, .inl (0, [3])), (5, .inl (0, [4])), (6, .inl (0, [5]))], [], [], ([(3, (-2147483648), 2147483647), (4, (-2147483648), 2147483647), (5, 1, 10), (0, (-2147483648), 2147483647), (1, (-2147483648), 2147483647), (2, (-2147483648), 2147483647)], [], [])), [(1, 0, (0, [])), (2147483647, 1, (0, [5])), (0, 0, (0, []))])], [], [])
set_option maxRecDepth 1000000 in
theorem ac_197 : af_meth 43 ag_197 ak_197.2.2.1 = true := by decide +kernel
def ag_198 : af_G := ((10, 2, (some .int), mc_159), aw_Sh, [], 1, ak_198.2.2.2.1, ak_198.2.2.2.2, [], [], [])
set_option maxRecDepth 1000000 in
theorem ac_198 : af_meth 17 ag_198 ak_198.2.2.1 = true := by decide +kernel
def ag_199 : af_G := ((10, 6, (some .int), mc_135), aw_Sh, [ak_127, ak_197, ak_117, ak_108, ak_198], 2, ak_199.2.2.2.1, ak_199.2.2.2.2, [(56, (6, [(0, .inr (.inl 0)), (1, .inl (0, [0])), (2, .inl (0, [1])), (3, .inl (0, [2])), (4, .inl (0, [3])), (5, .inl (0, [4]))], [], [((35, 3), (0, [5]))], ([(2, 0, 9), (3, (-2147483648), 2147483647), (4, 0, 9), (5, 0, 9), (0, 0, 2147483646), (1, 0, 2147483646)], [], [])), [(1, 0, (0, [])), (2147483647, 1, (0, [4])), (0, 0, (0, []))])], [], [])
set_option maxRecDepth 1000000 in
theorem ac_199 : af_meth 36 ag_199 ak_199.2.2.1 = true := by decide +kernel
def ag_200 : af_G := ((2, 3, (some .boolean), mc_16), aw_Sh, [ak_109], 2, ak_200.2.2.2.1, ak_200.2.2.2.2, [], [], [])
set_option maxRecDepth 1000000 in
theorem ac_200 : af_meth 21 ag_200 ak_200.2.2.1 = true := by decide +kernel
def ag_201 : af_G := ((10, 2, (some .int), mc_151), aw_Sh, [ak_97], 0, ak_201.2.2.2.1, ak_201.2.2.2.2, [], [], [])
set_option maxRecDepth 1000000 in
theorem ac_201 : af_meth 17 ag_201 ak_201.2.2.1 = true := by decide +kernel
def ag_202 : af_G := ((2, 8, (some .boolean), mc_17), aw_Sh, [ak_147, ak_181, ak_182], 3, ak_202.2.2.2.1, ak_202.2.2.2.2, [(11, (6, [(0, .inr (.inl 4)), (1, .inl (0, [0])), (2, .inl (0, [1])), (3, .inl (0, [2])), (4, .inl (0, [3])), (5, .inl (0, [4])), (6, .inl (0, [5]))], [], [], ([(3, (-2147483648), 2147483647), (4, (-2147483648), 2147483647), (5, 0, 2147483647), (0, (-2147483648), 2147483647), (1, (-2147483648), 2147483647), (2, (-2147483648), 2147483647)], [], [])), [(2, 0, (0, [])), (2147483647, 1, (0, [5])), (0, 0, (0, [])), (1000, 0, (0, [])), (0, 0, (0, [])), (0, 0, (0, []))]),
  (32, (7, [(0, .inr (.inl 4)), (1, .inl (0, [0])), (2, .inl (0, [1])), (3, .inl (0, [2])), (4, .inl (0, [3])), (5, .inl (0, [4])), (6, .inl (0, [5])), (7, .inl (0, [6]))], [], [], ([(3, (-2147483648), 2147483647), (4, (-2147483648), 2147483647), (5, 0, 2147483646), (6, 0, 10), (0, (-2147483648), 2147483647), (1, (-2147483648), 2147483647), (2, (-2147483648), 2147483647)], [], [])), [(2, 0, (0, [])), (2147483647, 1, (0, [5])), (0, 0, (0, [])), (1, 0, (0, [])), (2147483647, 1, (0, [6])), (0, 0, (0, []))])], [], [])
set_option maxRecDepth 1000000 in
theorem ac_202 : af_meth 31 ag_202 ak_202.2.2.1 = true := by decide +kernel
def ag_203 : af_G := ((10, 9, (some .int), mc_136), aw_Sh, [ak_200, ak_202, ak_119, ak_201, ak_117, ak_138], 3, ak_203.2.2.2.1, ak_203.2.2.2.2, [(87, (7, [(0, .inr (.inl 0)), (1, .inl (0, [0])), (2, .inl (0, [1])), (3, .inl (0, [2])), (4, .inl (0, [3])), (5, .inl (0, [4])), (6, .inl (0, [5])), (7, .inl (0, [6]))], [], [], ([(3, (-2147483648), 2147483647), (4, (-2147483648), 2147483647), (5, 0, 10), (6, 0, 2147483647), (0, 0, 2147483646), (1, 0, 2147483646), (2, 0, 2147483646)], [], [])), [(2, 0, (0, [])), (2147483647, 1, (0, [6])), (0, 0, (0, [])), (1000, 0, (0, [])), (0, 0, (0, [])), (0, 0, (0, []))]),
  (97, (8, [(0, .inr (.inl 0)), (1, .inl (0, [0])), (2, .inl (0, [1])), (3, .inl (0, [2])), (4, .inl (0, [3])), (5, .inl (0, [4])), (6, .inl (0, [5])), (7, .inl (0, [6])), (8, .inl (0, [7]))], [], [], ([(3, (-2147483648), 2147483647), (4, (-2147483648), 2147483647), (5, 0, 10), (6, 0, 2147483646), (7, 0, 2147483647), (0, 0, 2147483646), (1, 0, 2147483646), (2, 0, 2147483646)], [], [])), [(2, 0, (0, [])), (2147483647, 1, (0, [6])), (0, 0, (0, [])), (1, 0, (0, [])), (2147483647, 1, (0, [7])), (0, 0, (0, []))])], [], [])
set_option maxRecDepth 1000000 in
theorem ac_203 : af_meth 53 ag_203 ak_203.2.2.1 = true := by decide +kernel
def ag_204 : af_G := ((10, 2, none, mc_161), aw_Sh, [], 0, ak_204.2.2.2.1, ak_204.2.2.2.2, [], [], [])
set_option maxRecDepth 1000000 in
theorem ac_204 : af_meth 17 ag_204 ak_204.2.2.1 = true := by decide +kernel
def ag_205 : af_G := ((4, 2, none, mc_36), aw_Sh, [ak_204], 0, ak_205.2.2.2.1, ak_205.2.2.2.2, [], [], [])
set_option maxRecDepth 1000000 in
theorem ac_205 : af_meth 12 ag_205 ak_205.2.2.1 = true := by decide +kernel
def ag_206 : af_G := ((10, 2, (some .int), mc_159), aw_Sh, [], 1, ak_206.2.2.2.1, ak_206.2.2.2.2, [], [], [])
set_option maxRecDepth 1000000 in
theorem ac_206 : af_meth 17 ag_206 ak_206.2.2.1 = true := by decide +kernel
def ag_207 : af_G := ((4, 1, (some .int), mc_38), aw_Sh, [ak_206], 0, ak_207.2.2.2.1, ak_207.2.2.2.2, [], [], [])
set_option maxRecDepth 1000000 in
theorem ac_207 : af_meth 11 ag_207 ak_207.2.2.1 = true := by decide +kernel
def ag_208 : af_G := ((4, 3, (some .int), mc_39), aw_Sh, [ak_206], 2, ak_208.2.2.2.1, ak_208.2.2.2.2, [], [], [])
set_option maxRecDepth 1000000 in
theorem ac_208 : af_meth 17 ag_208 ak_208.2.2.1 = true := by decide +kernel
def ag_209 : af_G := ((4, 4, (some .int), mc_63), aw_Sh, [ak_208, ak_123], 1, ak_209.2.2.2.1, ak_209.2.2.2.2, [(4, (3, [(0, .inr (.inl 13)), (1, .inl (0, [0])), (2, .inl (0, [1])), (3, .inl (0, [2]))], [], [], ([(1, (-2147483648), 2147483647), (2, 0, 6), (0, (-2147483648), 2147483647)], [], [])), [(1, 0, (0, [])), (2147483647, 1, (0, [2])), (0, 0, (0, []))])], [], [])
set_option maxRecDepth 1000000 in
theorem ac_209 : af_meth 21 ag_209 ak_209.2.2.1 = true := by decide +kernel
def ag_210 : af_G := ((4, 5, (some .int), mc_56), aw_Sh, [ak_124, ak_125, ak_126, ak_123, ak_206], 1, ak_210.2.2.2.1, ak_210.2.2.2.2, [(14, (4, [(0, .inr (.inl 13)), (1, .inl (0, [0])), (2, .inl (0, [1])), (3, .inl (0, [2])), (4, .inl (0, [3]))], [], [], ([(1, (-2147483648), 2147483647), (2, 0, 6), (3, 0, 6), (0, (-2147483648), 2147483647)], [], [])), [(1, 0, (0, [])), (2147483647, 1, (0, [3])), (0, 0, (0, []))])], [], [])
set_option maxRecDepth 1000000 in
theorem ac_210 : af_meth 34 ag_210 ak_210.2.2.1 = true := by decide +kernel
def ag_211 : af_G := ((4, 5, (some .int), mc_57), aw_Sh, [ak_128, ak_129, ak_130], 1, ak_211.2.2.2.1, ak_211.2.2.2.2, [(4, (3, [(0, .inr (.inl 13)), (1, .inl (0, [0])), (2, .inl (0, [1])), (3, .inl (0, [2]))], [], [], ([(1, (-2147483648), 2147483647), (2, 0, 6), (0, (-2147483648), 2147483647)], [], [])), [(1, 0, (0, [])), (2147483647, 1, (0, [2])), (0, 0, (0, []))])], [], [])
set_option maxRecDepth 1000000 in
theorem ac_211 : af_meth 39 ag_211 ak_211.2.2.1 = true := by decide +kernel
def ag_212 : af_G := ((4, 5, (some .int), mc_55), aw_Sh, [ak_109, ak_206], 2, ak_212.2.2.2.1, ak_212.2.2.2.2, [], [], [])
set_option maxRecDepth 1000000 in
theorem ac_212 : af_meth 35 ag_212 ak_212.2.2.1 = true := by decide +kernel
def ag_213 : af_G := ((4, 7, (some .int), mc_59), aw_Sh, [ak_207, ak_212, ak_210, ak_211, ak_128, ak_129, ak_130, ak_123], 1, ak_213.2.2.2.1, ak_213.2.2.2.2, [(41, (6, [(0, .inr (.inl 13)), (1, .inl (0, [0])), (2, .inl (0, [1])), (3, .inl (0, [2])), (4, .inl (0, [3])), (5, .inl (0, [4])), (6, .inl (0, [5]))], [], [], ([(1, (-2147483648), 2147483647), (2, 1, 2), (3, (-2147483648), 2147483647), (4, 0, 6), (5, 0, 6), (0, (-2147483648), 2147483647)], [], [])), [(1, 0, (0, [])), (2147483647, 1, (0, [5])), (0, 0, (0, []))])], [], [])
set_option maxRecDepth 1000000 in
theorem ac_213 : af_meth 37 ag_213 ak_213.2.2.1 = true := by decide +kernel
def ag_214 : af_G := ((4, 5, (some .int), mc_60), aw_Sh, [ak_213, ak_143, ak_144, ak_145], 1, ak_214.2.2.2.1, ak_214.2.2.2.2, [(11, (4, [(0, .inr (.inl 13)), (1, .inl (0, [0])), (2, .inl (0, [1])), (3, .inl (0, [2])), (4, .inl (0, [3]))], [], [], ([(1, (-2147483648), 2147483647), (2, (-2147483648), 2147483647), (3, 0, 6), (0, (-2147483648), 2147483647)], [], [])), [(1, 0, (0, [])), (2147483647, 1, (0, [3])), (0, 0, (0, []))])], [], [])
set_option maxRecDepth 1000000 in
theorem ac_214 : af_meth 31 ag_214 ak_214.2.2.1 = true := by decide +kernel
def ag_215 : af_G := ((4, 3, (some .boolean), mc_45), aw_Sh, [ak_147, ak_109, ak_206], 2, ak_215.2.2.2.1, ak_215.2.2.2.2, [], [], [])
set_option maxRecDepth 1000000 in
theorem ac_215 : af_meth 26 ag_215 ak_215.2.2.1 = true := by decide +kernel
def ag_216 : af_G := ((4, 3, (some .int), mc_44), aw_Sh, [ak_215, ak_206], 2, ak_216.2.2.2.1, ak_216.2.2.2.2, [], [], [])
set_option maxRecDepth 1000000 in
theorem ac_216 : af_meth 22 ag_216 ak_216.2.2.1 = true := by decide +kernel
def ag_217 : af_G := ((4, 4, (some .int), mc_43), aw_Sh, [ak_207, ak_216, ak_214, ak_209, ak_206], 3, ak_217.2.2.2.1, ak_217.2.2.2.2, [], [], [])
set_option maxRecDepth 1000000 in
theorem ac_217 : af_meth 19 ag_217 ak_217.2.2.1 = true := by decide +kernel
def ag_218 : af_G := ((10, 3, none, mc_160), aw_Sh, [], 2, ak_218.2.2.2.1, ak_218.2.2.2.2, [], [], [])
set_option maxRecDepth 1000000 in
theorem ac_218 : af_meth 17 ag_218 ak_218.2.2.1 = true := by decide +kernel
def ag_219 : af_G := ((4, 7, none, mc_42), aw_Sh, [ak_109, ak_206, ak_218], 2, ak_219.2.2.2.1, ak_219.2.2.2.2, [], [], [])
set_option maxRecDepth 1000000 in
theorem ac_219 : af_meth 93 ag_219 ak_219.2.2.1 = true := by decide +kernel
def ag_220 : af_G := ((4, 4, none, mc_48), aw_Sh, [ak_219, ak_101, ak_206, ak_218], 2, ak_220.2.2.2.1, ak_220.2.2.2.2, [(28, (3, [(0, .inr (.inl 13)), (1, .inl (0, [0])), (2, .inl (0, [1])), (3, .inl (0, [2]))], [], [], ([(2, 0, 6), (0, (-2147483648), 2147483647), (1, (-2147483648), 2147483647)], [], [])), [(1, 0, (0, [])), (2147483647, 1, (0, [2])), (0, 0, (0, []))])], [], [])
set_option maxRecDepth 1000000 in
theorem ac_220 : af_meth 33 ag_220 ak_220.2.2.1 = true := by decide +kernel
def ag_221 : af_G := ((4, 3, none, mc_47), aw_Sh, [ak_123, ak_218], 1, ak_221.2.2.2.1, ak_221.2.2.2.2, [(2, (2, [(0, .inr (.inl 13)), (1, .inl (0, [0])), (2, .inl (0, [1]))], [], [], ([(1, 0, 6), (0, (-2147483648), 2147483647)], [], [])), [(1, 0, (0, [])), (2147483647, 1, (0, [1])), (0, 0, (0, []))])], [], [])
set_option maxRecDepth 1000000 in
theorem ac_221 : af_meth 25 ag_221 ak_221.2.2.1 = true := by decide +kernel
def ag_222 : af_G := ((4, 4, none, mc_41), aw_Sh, [ak_219, ak_206], 1, ak_222.2.2.2.1, ak_222.2.2.2.2, [(39, (3, [(0, .inr (.inl 13)), (1, .inl (0, [0])), (2, .inl (0, [1])), (3, .inl (0, [2]))], [], [], ([(1, (-2147483648), 2147483647), (2, 0, 6), (0, (-2147483648), 2147483647)], [], [])), [(1, 0, (0, [])), (2147483647, 1, (0, [2])), (0, 0, (0, []))])], [], [])
set_option maxRecDepth 1000000 in
theorem ac_222 : af_meth 28 ag_222 ak_222.2.2.1 = true := by decide +kernel
def ag_223 : af_G := ((4, 4, none, mc_46), aw_Sh, [ak_222, ak_221, ak_220, ak_206, ak_218], 3, ak_223.2.2.2.1, ak_223.2.2.2.2, [], [], [])
set_option maxRecDepth 1000000 in
theorem ac_223 : af_meth 27 ag_223 ak_223.2.2.1 = true := by decide +kernel
def ag_224 : af_G := ((4, 6, none, mc_50), aw_Sh, [ak_207, ak_101, ak_123, ak_206, ak_218], 0, ak_224.2.2.2.1, ak_224.2.2.2.2, [(34, (4, [(0, .inr (.inl 13)), (1, .inl (0, [0])), (2, .inl (0, [1])), (3, .inl (0, [2])), (4, .inl (0, [3]))], [], [], ([(0, 0, 2147483647), (1, 0, 6), (2, 0, 6), (3, 0, 2147483647)], [], [])), [(2, 0, (0, [])), (2147483647, 1, (0, [3])), (0, 0, (0, [])), (1000, 0, (0, [])), (0, 0, (0, [])), (0, 0, (0, []))]),
  (43, (5, [(0, .inr (.inl 13)), (1, .inl (0, [0])), (2, .inl (0, [1])), (3, .inl (0, [2])), (4, .inl (0, [3])), (5, .inl (0, [4]))], [], [], ([(0, 0, 2147483647), (1, 0, 6), (2, 1, 6), (3, 0, 2147483646), (4, 0, 6)], [], [])), [(2, 0, (0, [])), (2147483647, 1, (0, [3])), (0, 0, (0, [])), (1, 0, (0, [])), (2147483647, 1, (0, [4])), (0, 0, (0, []))])], [], [])
set_option maxRecDepth 1000000 in
theorem ac_224 : af_meth 34 ag_224 ak_224.2.2.1 = true := by decide +kernel
def ag_225 : af_G := ((4, 5, none, mc_51), aw_Sh, [ak_222, ak_215, ak_109, ak_206, ak_218], 1, ak_225.2.2.2.1, ak_225.2.2.2.2, [], [], [])
set_option maxRecDepth 1000000 in
theorem ac_225 : af_meth 72 ag_225 ak_225.2.2.1 = true := by decide +kernel
