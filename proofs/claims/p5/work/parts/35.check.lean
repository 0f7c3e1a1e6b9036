/-! the checks; by program -/
def ag_480 : af_G := ((11, 2, (some .int), mc_284), aw_Sh, [ak_479], 1, ak_480.2.2.2.1, ak_480.2.2.2.2, [], [], [])
set_option maxRecDepth 1000000 in
theorem ac_480 : af_meth 23 ag_480 ak_480.2.2.1 = true := by decide +kernel
theorem aw_480 : af_wfK ak_480.2.1 ak_480.2.2.1 ak_480.2.2.2.2 ag_480.2.2.2.2.2.2.1 = true := by decide +kernel
theorem ah_480 : af_Holds aw_Sh 2 ak_480 := af_soundG (G := ag_480) (K := ak_480) (d := 1) pz_284 rfl rfl rfl rfl aw_480 ac_480 (af_HC ah_479 (by decide) af_HN)
def ag_481 : af_G := ((11, 2, none, mc_166), aw_Sh, [], 0, ak_481.2.2.2.1, ak_481.2.2.2.2, [], [], [])
set_option maxRecDepth 1000000 in
theorem ac_481 : af_meth 20 ag_481 ak_481.2.2.1 = true := by decide +kernel
theorem aw_481 : af_wfK ak_481.2.1 ak_481.2.2.1 ak_481.2.2.2.2 ag_481.2.2.2.2.2.2.1 = true := by decide +kernel
theorem ah_481 : af_Holds aw_Sh 1 ak_481 := af_soundG (G := ag_481) (K := ak_481) (d := 0) pz_166 rfl rfl rfl rfl aw_481 ac_481 af_HN
def ag_483 : af_G := ((11, 1, (some .boolean), mc_174), aw_Sh, [], 1, ak_483.2.2.2.1, ak_483.2.2.2.2, [], [], [])
set_option maxRecDepth 1000000 in
theorem ac_483 : af_meth 15 ag_483 ak_483.2.2.1 = true := by decide +kernel
theorem aw_483 : af_wfK ak_483.2.1 ak_483.2.2.1 ak_483.2.2.2.2 ag_483.2.2.2.2.2.2.1 = true := by decide +kernel
theorem ah_483 : af_Holds aw_Sh 1 ak_483 := af_soundG (G := ag_483) (K := ak_483) (d := 0) pz_174 rfl rfl rfl rfl aw_483 ac_483 af_HN
def ag_484 : af_G := ((11, 1, (some .boolean), mc_174), aw_Sh, [], 1, ak_484.2.2.2.1, ak_484.2.2.2.2, [], [], [])
set_option maxRecDepth 1000000 in
theorem ac_484 : af_meth 15 ag_484 ak_484.2.2.1 = true := by decide +kernel
theorem aw_484 : af_wfK ak_484.2.1 ak_484.2.2.1 ak_484.2.2.2.2 ag_484.2.2.2.2.2.2.1 = true := by decide +kernel
theorem ah_484 : af_Holds aw_Sh 1 ak_484 := af_soundG (G := ag_484) (K := ak_484) (d := 0) pz_174 rfl rfl rfl rfl aw_484 ac_484 af_HN
def ag_485 : af_G := ((11, 1, (some .boolean), mc_175), aw_Sh, [], 1, ak_485.2.2.2.1, ak_485.2.2.2.2, [], [], [])
set_option maxRecDepth 1000000 in
theorem ac_485 : af_meth 15 ag_485 ak_485.2.2.1 = true := by decide +kernel
theorem aw_485 : af_wfK ak_485.2.1 ak_485.2.2.1 ak_485.2.2.2.2 ag_485.2.2.2.2.2.2.1 = true := by decide +kernel
theorem ah_485 : af_Holds aw_Sh 1 ak_485 := af_soundG (G := ag_485) (K := ak_485) (d := 0) pz_175 rfl rfl rfl rfl aw_485 ac_485 af_HN
def ag_486 : af_G := ((11, 1, (some .boolean), mc_174), aw_Sh, [], 1, ak_486.2.2.2.1, ak_486.2.2.2.2, [], [], [])
set_option maxRecDepth 1000000 in
theorem ac_486 : af_meth 11 ag_486 ak_486.2.2.1 = true := by decide +kernel
theorem aw_486 : af_wfK ak_486.2.1 ak_486.2.2.1 ak_486.2.2.2.2 ag_486.2.2.2.2.2.2.1 = true := by decide +kernel
theorem ah_486 : af_Holds aw_Sh 1 ak_486 := af_soundG (G := ag_486) (K := ak_486) (d := 0) pz_174 rfl rfl rfl rfl aw_486 ac_486 af_HN
def ag_487 : af_G := ((11, 1, (some .boolean), mc_175), aw_Sh, [], 1, ak_487.2.2.2.1, ak_487.2.2.2.2, [], [], [])
set_option maxRecDepth 1000000 in
theorem ac_487 : af_meth 15 ag_487 ak_487.2.2.1 = true := by decide +kernel
theorem aw_487 : af_wfK ak_487.2.1 ak_487.2.2.1 ak_487.2.2.2.2 ag_487.2.2.2.2.2.2.1 = true := by decide +kernel
theorem ah_487 : af_Holds aw_Sh 1 ak_487 := af_soundG (G := ag_487) (K := ak_487) (d := 0) pz_175 rfl rfl rfl rfl aw_487 ac_487 af_HN
def ag_488 : af_G := ((11, 1, (some .boolean), mc_174), aw_Sh, [], 1, ak_488.2.2.2.1, ak_488.2.2.2.2, [], [], [])
set_option maxRecDepth 1000000 in
theorem ac_488 : af_meth 11 ag_488 ak_488.2.2.1 = true := by decide +kernel
theorem aw_488 : af_wfK ak_488.2.1 ak_488.2.2.1 ak_488.2.2.2.2 ag_488.2.2.2.2.2.2.1 = true := by decide +kernel
theorem ah_488 : af_Holds aw_Sh 1 ak_488 := af_soundG (G := ag_488) (K := ak_488) (d := 0) pz_174 rfl rfl rfl rfl aw_488 ac_488 af_HN
def ag_489 : af_G := ((11, 1, (some .boolean), mc_175), aw_Sh, [], 1, ak_489.2.2.2.1, ak_489.2.2.2.2, [], [], [])
set_option maxRecDepth 1000000 in
theorem ac_489 : af_meth 11 ag_489 ak_489.2.2.1 = true := by decide +kernel
theorem aw_489 : af_wfK ak_489.2.1 ak_489.2.2.1 ak_489.2.2.2.2 ag_489.2.2.2.2.2.2.1 = true := by decide +kernel
theorem ah_489 : af_Holds aw_Sh 1 ak_489 := af_soundG (G := ag_489) (K := ak_489) (d := 0) pz_175 rfl rfl rfl rfl aw_489 ac_489 af_HN
def ag_490 : af_G := ((11, 4, none, mc_176), aw_Sh, [ak_482, ak_488, ak_486, ak_484, ak_483, ak_489, ak_487, ak_485], 3, ak_490.2.2.2.1, ak_490.2.2.2.2, [(0, (4, [(0, .inr (.inl 61))], [], [((61, 3), (0, [1])), ((61, 4), (0, [3])), ((61, 11), (0, [2]))], ([(3, 1, 940), (0, 0, 939), (1, 1, 940), (2, 0, 4)], [(3, 0, 1)], [])), [(2, 0, (0, [])), (2147483647, 1, (0, [3])), (0, 0, (0, []))]),
  (181, (8, [(0, .inr (.inl 61)), (1, .inl (0, [3])), (2, .inl (1, [])), (3, .inl (1, []))], [], [((61, 3), (0, [1])), ((61, 4), (0, [4])), ((61, 5), (0, [5])), ((61, 11), (0, [2])), ((61, 12), (0, [6])), ((61, 13), (0, [])), ((61, 14), (0, [])), ((1000, 0), (0, [7]))], ([(3, 97, 122), (4, 0, 939), (5, 1, 900), (6, 0, 939), (7, 97, 122), (0, 0, 939), (1, 1, 940), (2, 0, 4)], [(4, 0, 0)], [])), [(1, 0, (0, [])), (2147483647, 1, (0, [4])), (0, 0, (0, []))]),
  (181, (8, [(0, .inr (.inl 61)), (1, .inl (0, [3])), (2, .inl (0, [])), (3, .inl (1, []))], [], [((61, 3), (0, [1])), ((61, 4), (0, [4])), ((61, 5), (0, [5])), ((61, 11), (0, [2])), ((61, 12), (0, [6])), ((61, 13), (0, [])), ((61, 14), (0, [])), ((1000, 0), (0, [7]))], ([(3, 48, 57), (4, 0, 939), (5, 1, 900), (6, 0, 939), (7, 48, 57), (0, 0, 939), (1, 1, 940), (2, 0, 4)], [(4, 0, 0)], [])), [(1, 0, (0, [])), (2147483647, 1, (0, [4])), (0, 0, (0, []))]),
  (181, (9, [(0, .inr (.inl 61)), (1, .inl (0, [3])), (2, .inl (0, [4])), (3, .inl (0, [5]))], [], [((61, 3), (0, [1])), ((61, 4), (0, [6])), ((61, 5), (0, [7])), ((61, 11), (0, [2])), ((61, 12), (0, [8]))], ([(3, 48, 122), (4, 0, 1), (5, 0, 1), (6, 1, 940), (7, 1, 900), (8, 0, 939), (0, 0, 939), (1, 1, 940), (2, 0, 4)], [(6, 0, 1)], [])), [(1, 0, (0, [])), (2147483647, 1, (0, [6])), (0, 0, (0, []))])], [], [])
set_option maxRecDepth 1000000 in
theorem ac_490 : af_meth 71 ag_490 ak_490.2.2.1 = true := by decide +kernel
theorem aw_490 : af_wfK ak_490.2.1 ak_490.2.2.1 ak_490.2.2.2.2 ag_490.2.2.2.2.2.2.1 = true := by decide +kernel
theorem ah_490 : af_Holds aw_Sh 7 ak_490 := af_soundG (G := ag_490) (K := ak_490) (d := 6) pz_176 rfl rfl rfl rfl aw_490 ac_490 (af_HC ah_482 (by decide) (af_HC ah_488 (by decide) (af_HC ah_486 (by decide) (af_HC ah_484 (by decide) (af_HC ah_483 (by decide) (af_HC ah_489 (by decide) (af_HC ah_487 (by decide) (af_HC ah_485 (by decide) af_HN))))))))
def ag_491 : af_G := ((11, 3, (some .boolean), mc_178), aw_Sh, [], 1, ak_491.2.2.2.1, ak_491.2.2.2.2, [], [], [])
set_option maxRecDepth 1000000 in
theorem ac_491 : af_meth 18 ag_491 ak_491.2.2.1 = true := by decide +kernel
theorem aw_491 : af_wfK ak_491.2.1 ak_491.2.2.1 ak_491.2.2.2.2 ag_491.2.2.2.2.2.2.1 = true := by decide +kernel
theorem ah_491 : af_Holds aw_Sh 1 ak_491 := af_soundG (G := ag_491) (K := ak_491) (d := 0) pz_178 rfl rfl rfl rfl aw_491 ac_491 af_HN
def ag_492 : af_G := ((11, 3, (some .boolean), mc_181), aw_Sh, [], 1, ak_492.2.2.2.1, ak_492.2.2.2.2, [(16, (3, [(0, .inr (.inl 61)), (1, .inl (0, [1])), (2, .inl (0, [2]))], [], [((61, 11), (0, [0]))], ([(1, 0, 1), (2, 0, 29), (0, 1, 1)], [], [])), [(1, 0, (0, [])), (2147483647, 1, (0, [2])), (0, 0, (0, []))]),
  (16, (2, [(0, .inr (.inl 61)), (1, .inl (0, [])), (2, .inl (0, [1]))], [], [((61, 11), (0, [0]))], ([(1, 0, 29), (0, 0, 4)], [], [])), [(1, 0, (0, [])), (2147483647, 1, (0, [1])), (0, 0, (0, []))])], [], [])
set_option maxRecDepth 1000000 in
theorem ac_492 : af_meth 24 ag_492 ak_492.2.2.1 = true := by decide +kernel
theorem aw_492 : af_wfK ak_492.2.1 ak_492.2.2.1 ak_492.2.2.2.2 ag_492.2.2.2.2.2.2.1 = true := by decide +kernel
theorem ah_492 : af_Holds aw_Sh 1 ak_492 := af_soundG (G := ag_492) (K := ak_492) (d := 0) pz_181 rfl rfl rfl rfl aw_492 ac_492 af_HN
def ag_493 : af_G := ((11, 2, (some .boolean), mc_177), aw_Sh, [], 1, ak_493.2.2.2.1, ak_493.2.2.2.2, [], [], [])
set_option maxRecDepth 1000000 in
theorem ac_493 : af_meth 15 ag_493 ak_493.2.2.1 = true := by decide +kernel
theorem aw_493 : af_wfK ak_493.2.1 ak_493.2.2.1 ak_493.2.2.2.2 ag_493.2.2.2.2.2.2.1 = true := by decide +kernel
theorem ah_493 : af_Holds aw_Sh 1 ak_493 := af_soundG (G := ag_493) (K := ak_493) (d := 0) pz_177 rfl rfl rfl rfl aw_493 ac_493 af_HN
def ag_494 : af_G := ((11, 4, (some .int), mc_184), aw_Sh, [], 1, ak_494.2.2.2.1, ak_494.2.2.2.2, [(2, (2, [(0, .inr (.inl 61)), (1, .inl (27, [])), (2, .inl (0, [0])), (3, .inl (0, [1]))], [], [], ([(1, 0, 10), (0, 0, 10)], [], [])), [(1, 0, (0, [])), (2147483647, 1, (0, [1])), (0, 0, (0, []))])], [], [])
set_option maxRecDepth 1000000 in
theorem ac_494 : af_meth 21 ag_494 ak_494.2.2.1 = true := by decide +kernel
theorem aw_494 : af_wfK ak_494.2.1 ak_494.2.2.1 ak_494.2.2.2.2 ag_494.2.2.2.2.2.2.1 = true := by decide +kernel
theorem ah_494 : af_Holds aw_Sh 1 ak_494 := af_soundG (G := ag_494) (K := ak_494) (d := 0) pz_184 rfl rfl rfl rfl aw_494 ac_494 af_HN
def ag_495 : af_G := ((11, 4, (some .int), mc_184), aw_Sh, [], 1, ak_495.2.2.2.1, ak_495.2.2.2.2, [(2, (2, [(0, .inr (.inl 61)), (1, .inl (37, [])), (2, .inl (0, [0])), (3, .inl (0, [1]))], [], [], ([(1, 0, 5), (0, 0, 5)], [], [])), [(1, 0, (0, [])), (2147483647, 1, (0, [1])), (0, 0, (0, []))])], [], [])
set_option maxRecDepth 1000000 in
theorem ac_495 : af_meth 21 ag_495 ak_495.2.2.1 = true := by decide +kernel
theorem aw_495 : af_wfK ak_495.2.1 ak_495.2.2.1 ak_495.2.2.2.2 ag_495.2.2.2.2.2.2.1 = true := by decide +kernel
theorem ah_495 : af_Holds aw_Sh 1 ak_495 := af_soundG (G := ag_495) (K := ak_495) (d := 0) pz_184 rfl rfl rfl rfl aw_495 ac_495 af_HN
def ag_496 : af_G := ((11, 4, (some .int), mc_184), aw_Sh, [], 1, ak_496.2.2.2.1, ak_496.2.2.2.2, [(2, (2, [(0, .inr (.inl 61)), (1, .inl (42, [])), (2, .inl (0, [0])), (3, .inl (0, [1]))], [], [], ([(1, 0, 6), (0, 0, 6)], [], [])), [(1, 0, (0, [])), (2147483647, 1, (0, [1])), (0, 0, (0, []))])], [], [])
set_option maxRecDepth 1000000 in
theorem ac_496 : af_meth 21 ag_496 ak_496.2.2.1 = true := by decide +kernel
theorem aw_496 : af_wfK ak_496.2.1 ak_496.2.2.1 ak_496.2.2.2.2 ag_496.2.2.2.2.2.2.1 = true := by decide +kernel
theorem ah_496 : af_Holds aw_Sh 1 ak_496 := af_soundG (G := ag_496) (K := ak_496) (d := 0) pz_184 rfl rfl rfl rfl aw_496 ac_496 af_HN
def ag_497 : af_G := ((11, 4, (some .int), mc_184), aw_Sh, [], 1, ak_497.2.2.2.1, ak_497.2.2.2.2, [(2, (2, [(0, .inr (.inl 61)), (1, .inl (48, [])), (2, .inl (0, [0])), (3, .inl (0, [1]))], [], [], ([(1, 0, 6), (0, 0, 6)], [], [])), [(1, 0, (0, [])), (2147483647, 1, (0, [1])), (0, 0, (0, []))])], [], [])
set_option maxRecDepth 1000000 in
theorem ac_497 : af_meth 21 ag_497 ak_497.2.2.1 = true := by decide +kernel
theorem aw_497 : af_wfK ak_497.2.1 ak_497.2.2.1 ak_497.2.2.2.2 ag_497.2.2.2.2.2.2.1 = true := by decide +kernel
theorem ah_497 : af_Holds aw_Sh 1 ak_497 := af_soundG (G := ag_497) (K := ak_497) (d := 0) pz_184 rfl rfl rfl rfl aw_497 ac_497 af_HN
def ag_498 : af_G := ((11, 2, (some .boolean), mc_185), aw_Sh, [ak_490, ak_493, ak_492, ak_495, ak_496, ak_497, ak_494], 3, ak_498.2.2.2.1, ak_498.2.2.2.2, [], [], [])
set_option maxRecDepth 1000000 in
theorem ac_498 : af_meth 51 ag_498 ak_498.2.2.1 = true := by decide +kernel
theorem aw_498 : af_wfK ak_498.2.1 ak_498.2.2.1 ak_498.2.2.2.2 ag_498.2.2.2.2.2.2.1 = true := by decide +kernel
theorem ah_498 : af_Holds aw_Sh 8 ak_498 := af_soundG (G := ag_498) (K := ak_498) (d := 7) pz_185 rfl rfl rfl rfl aw_498 ac_498 (af_HC ah_490 (by decide) (af_HC ah_493 (by decide) (af_HC ah_492 (by decide) (af_HC ah_495 (by decide) (af_HC ah_496 (by decide) (af_HC ah_497 (by decide) (af_HC ah_494 (by decide) af_HN)))))))
def ag_499 : af_G := ((11, 3, (some .boolean), mc_186), aw_Sh, [ak_493, ak_492, ak_494], 3, ak_499.2.2.2.1, ak_499.2.2.2.2, [], [], [])
set_option maxRecDepth 1000000 in
theorem ac_499 : af_meth 24 ag_499 ak_499.2.2.1 = true := by decide +kernel
theorem aw_499 : af_wfK ak_499.2.1 ak_499.2.2.1 ak_499.2.2.2.2 ag_499.2.2.2.2.2.2.1 = true := by decide +kernel
theorem ah_499 : af_Holds aw_Sh 2 ak_499 := af_soundG (G := ag_499) (K := ak_499) (d := 1) pz_186 rfl rfl rfl rfl aw_499 ac_499 (af_HC ah_493 (by decide) (af_HC ah_492 (by decide) (af_HC ah_494 (by decide) af_HN)))
def ag_500 : af_G := ((11, 3, (some .boolean), mc_187), aw_Sh, [ak_490, ak_499], 3, ak_500.2.2.2.1, ak_500.2.2.2.2, [], [], [])
set_option maxRecDepth 1000000 in
theorem ac_500 : af_meth 15 ag_500 ak_500.2.2.1 = true := by decide +kernel
theorem aw_500 : af_wfK ak_500.2.1 ak_500.2.2.1 ak_500.2.2.2.2 ag_500.2.2.2.2.2.2.1 = true := by decide +kernel
theorem ah_500 : af_Holds aw_Sh 8 ak_500 := af_soundG (G := ag_500) (K := ak_500) (d := 7) pz_187 rfl rfl rfl rfl aw_500 ac_500 (af_HC ah_490 (by decide) (af_HC ah_499 (by decide) af_HN))
def ag_501 : af_G := ((11, 4, (some .int), mc_184), aw_Sh, [], 1, ak_501.2.2.2.1, ak_501.2.2.2.2, [(2, (2, [(0, .inr (.inl 61)), (1, .inl (27, [])), (2, .inl (0, [0])), (3, .inl (0, [1]))], [], [], ([(1, 0, 10), (0, 1, 10)], [], [])), [(1, 0, (0, [])), (2147483647, 1, (0, [1])), (0, 0, (0, []))])], [], [])
set_option maxRecDepth 1000000 in
theorem ac_501 : af_meth 21 ag_501 ak_501.2.2.1 = true := by decide +kernel
theorem aw_501 : af_wfK ak_501.2.1 ak_501.2.2.1 ak_501.2.2.2.2 ag_501.2.2.2.2.2.2.1 = true := by decide +kernel
theorem ah_501 : af_Holds aw_Sh 1 ak_501 := af_soundG (G := ag_501) (K := ak_501) (d := 0) pz_184 rfl rfl rfl rfl aw_501 ac_501 af_HN
def ag_502 : af_G := ((11, 3, (some .boolean), mc_186), aw_Sh, [ak_493, ak_492, ak_501], 3, ak_502.2.2.2.1, ak_502.2.2.2.2, [], [], [])
set_option maxRecDepth 1000000 in
theorem ac_502 : af_meth 24 ag_502 ak_502.2.2.1 = true := by decide +kernel
theorem aw_502 : af_wfK ak_502.2.1 ak_502.2.2.1 ak_502.2.2.2.2 ag_502.2.2.2.2.2.2.1 = true := by decide +kernel
theorem ah_502 : af_Holds aw_Sh 2 ak_502 := af_soundG (G := ag_502) (K := ak_502) (d := 1) pz_186 rfl rfl rfl rfl aw_502 ac_502 (af_HC ah_493 (by decide) (af_HC ah_492 (by decide) (af_HC ah_501 (by decide) af_HN)))
def ag_503 : af_G := ((11, 2, (some .boolean), mc_189), aw_Sh, [ak_377, ak_490, ak_493, ak_502, ak_500], 2, ak_503.2.2.2.1, ak_503.2.2.2.2, [], [], [])
set_option maxRecDepth 1000000 in
theorem ac_503 : af_meth 85 ag_503 ak_503.2.2.1 = true := by decide +kernel
theorem aw_503 : af_wfK ak_503.2.1 ak_503.2.2.1 ak_503.2.2.2.2 ag_503.2.2.2.2.2.2.1 = true := by decide +kernel
theorem ah_503 : af_Holds aw_Sh 9 ak_503 := af_soundG (G := ag_503) (K := ak_503) (d := 8) pz_189 rfl rfl rfl rfl aw_503 ac_503 (af_HC ah_377 (by decide) (af_HC ah_490 (by decide) (af_HC ah_493 (by decide) (af_HC ah_502 (by decide) (af_HC ah_500 (by decide) af_HN)))))
def ag_504 : af_G := ((11, 2, (some .boolean), mc_185), aw_Sh, [ak_490, ak_493, ak_492, ak_495, ak_496, ak_497, ak_494], 3, ak_504.2.2.2.1, ak_504.2.2.2.2, [], [], [])
set_option maxRecDepth 1000000 in
theorem ac_504 : af_meth 51 ag_504 ak_504.2.2.1 = true := by decide +kernel
theorem aw_504 : af_wfK ak_504.2.1 ak_504.2.2.1 ak_504.2.2.2.2 ag_504.2.2.2.2.2.2.1 = true := by decide +kernel
theorem ah_504 : af_Holds aw_Sh 8 ak_504 := af_soundG (G := ag_504) (K := ak_504) (d := 7) pz_185 rfl rfl rfl rfl aw_504 ac_504 (af_HC ah_490 (by decide) (af_HC ah_493 (by decide) (af_HC ah_492 (by decide) (af_HC ah_495 (by decide) (af_HC ah_496 (by decide) (af_HC ah_497 (by decide) (af_HC ah_494 (by decide) af_HN)))))))
def ag_505 : af_G := ((11, 2, (some .boolean), mc_185), aw_Sh, [ak_490, ak_493, ak_492, ak_495, ak_496, ak_497, ak_494], 3, ak_505.2.2.2.1, ak_505.2.2.2.2, [], [], [])
set_option maxRecDepth 1000000 in
theorem ac_505 : af_meth 51 ag_505 ak_505.2.2.1 = true := by decide +kernel
theorem aw_505 : af_wfK ak_505.2.1 ak_505.2.2.1 ak_505.2.2.2.2 ag_505.2.2.2.2.2.2.1 = true := by decide +kernel
theorem ah_505 : af_Holds aw_Sh 8 ak_505 := af_soundG (G := ag_505) (K := ak_505) (d := 7) pz_185 rfl rfl rfl rfl aw_505 ac_505 (af_HC ah_490 (by decide) (af_HC ah_493 (by decide) (af_HC ah_492 (by decide) (af_HC ah_495 (by decide) (af_HC ah_496 (by decide) (af_HC ah_497 (by decide) (af_HC ah_494 (by decide) af_HN)))))))
def ag_506 : af_G := ((11, 3, (some .boolean), mc_182), aw_Sh, [ak_467, ak_490, ak_493], 2, ak_506.2.2.2.1, ak_506.2.2.2.2, [], [], [])
set_option maxRecDepth 1000000 in
theorem ac_506 : af_meth 24 ag_506 ak_506.2.2.1 = true := by decide +kernel
theorem aw_506 : af_wfK ak_506.2.1 ak_506.2.2.1 ak_506.2.2.2.2 ag_506.2.2.2.2.2.2.1 = true := by decide +kernel
theorem ah_506 : af_Holds aw_Sh 8 ak_506 := af_soundG (G := ag_506) (K := ak_506) (d := 7) pz_182 rfl rfl rfl rfl aw_506 ac_506 (af_HC ah_467 (by decide) (af_HC ah_490 (by decide) (af_HC ah_493 (by decide) af_HN)))
def ag_507 : af_G := ((11, 4, (some .boolean), mc_183), aw_Sh, [ak_506], 3, ak_507.2.2.2.1, ak_507.2.2.2.2, [], [], [])
set_option maxRecDepth 1000000 in
theorem ac_507 : af_meth 19 ag_507 ak_507.2.2.1 = true := by decide +kernel
theorem aw_507 : af_wfK ak_507.2.1 ak_507.2.2.1 ak_507.2.2.2.2 ag_507.2.2.2.2.2.2.1 = true := by decide +kernel
theorem ah_507 : af_Holds aw_Sh 9 ak_507 := af_soundG (G := ag_507) (K := ak_507) (d := 8) pz_183 rfl rfl rfl rfl aw_507 ac_507 (af_HC ah_506 (by decide) af_HN)
def ag_508 : af_G := ((11, 4, (some .int), mc_184), aw_Sh, [], 1, ak_508.2.2.2.1, ak_508.2.2.2.2, [(2, (2, [(0, .inr (.inl 61)), (1, .inl (42, [])), (2, .inl (0, [0])), (3, .inl (0, [1]))], [], [], ([(1, 0, 5), (0, 0, 5)], [], [])), [(1, 0, (0, [])), (2147483647, 1, (0, [1])), (0, 0, (0, []))])], [], [])
set_option maxRecDepth 1000000 in
theorem ac_508 : af_meth 21 ag_508 ak_508.2.2.1 = true := by decide +kernel
theorem aw_508 : af_wfK ak_508.2.1 ak_508.2.2.1 ak_508.2.2.2.2 ag_508.2.2.2.2.2.2.1 = true := by decide +kernel
theorem ah_508 : af_Holds aw_Sh 1 ak_508 := af_soundG (G := ag_508) (K := ak_508) (d := 0) pz_184 rfl rfl rfl rfl aw_508 ac_508 af_HN
def ag_509 : af_G := ((11, 3, (some .boolean), mc_186), aw_Sh, [ak_493, ak_492, ak_508], 3, ak_509.2.2.2.1, ak_509.2.2.2.2, [], [], [])
set_option maxRecDepth 1000000 in
theorem ac_509 : af_meth 24 ag_509 ak_509.2.2.1 = true := by decide +kernel
theorem aw_509 : af_wfK ak_509.2.1 ak_509.2.2.1 ak_509.2.2.2.2 ag_509.2.2.2.2.2.2.1 = true := by decide +kernel
theorem ah_509 : af_Holds aw_Sh 2 ak_509 := af_soundG (G := ag_509) (K := ak_509) (d := 1) pz_186 rfl rfl rfl rfl aw_509 ac_509 (af_HC ah_493 (by decide) (af_HC ah_492 (by decide) (af_HC ah_508 (by decide) af_HN)))
def ag_510 : af_G := ((11, 2, (some .boolean), mc_179), aw_Sh, [], 2, ak_510.2.2.2.1, ak_510.2.2.2.2, [], [], [])
set_option maxRecDepth 1000000 in
theorem ac_510 : af_meth 17 ag_510 ak_510.2.2.1 = true := by decide +kernel
theorem aw_510 : af_wfK ak_510.2.1 ak_510.2.2.1 ak_510.2.2.2.2 ag_510.2.2.2.2.2.2.1 = true := by decide +kernel
theorem ah_510 : af_Holds aw_Sh 1 ak_510 := af_soundG (G := ag_510) (K := ak_510) (d := 0) pz_179 rfl rfl rfl rfl aw_510 ac_510 af_HN
def ag_511 : af_G := ((11, 3, (some .boolean), mc_186), aw_Sh, [ak_493, ak_492, ak_495], 3, ak_511.2.2.2.1, ak_511.2.2.2.2, [], [], [])
set_option maxRecDepth 1000000 in
theorem ac_511 : af_meth 24 ag_511 ak_511.2.2.1 = true := by decide +kernel
theorem aw_511 : af_wfK ak_511.2.1 ak_511.2.2.1 ak_511.2.2.2.2 ag_511.2.2.2.2.2.2.1 = true := by decide +kernel
theorem ah_511 : af_Holds aw_Sh 2 ak_511 := af_soundG (G := ag_511) (K := ak_511) (d := 1) pz_186 rfl rfl rfl rfl aw_511 ac_511 (af_HC ah_493 (by decide) (af_HC ah_492 (by decide) (af_HC ah_495 (by decide) af_HN)))
def ag_512 : af_G := ((11, 3, (some .boolean), mc_190), aw_Sh, [ak_377, ak_490, ak_493, ak_510, ak_507, ak_505, ak_509, ak_511], 3, ak_512.2.2.2.1, ak_512.2.2.2.2, [(143, (8, [(0, .inr (.inl 61)), (1, .inl (0, [0])), (2, .inl (0, [3]))], [], [((61, 3), (0, [4])), ((61, 4), (0, [5])), ((61, 11), (0, [])), ((61, 13), (0, [])), ((61, 18), (0, [6])), ((64, 3), (0, [7]))], ([(3, 0, 5), (4, 1, 940), (5, 0, 940), (6, 0, 30), (7, 0, 5), (0, 0, 0), (1, 0, 939), (2, 0, 4)], [(5, 1, 2)], [])), [(1, 0, (0, [])), (940, 1, (0, [5])), (0, 0, (0, []))]),
  (143, (11, [(0, .inr (.inl 61)), (1, .inl (0, [0])), (2, .inl (0, [3]))], [], [((61, 3), (0, [4])), ((61, 4), (0, [5])), ((61, 11), (0, [6])), ((61, 12), (0, [7])), ((61, 13), (0, [8])), ((61, 18), (0, [9])), ((64, 3), (0, [10]))], ([(3, 0, 5), (4, 1, 940), (5, 1, 940), (6, 1, 3), (7, 0, 939), (8, (-2147483648), 7), (9, 0, 30), (10, 0, 5), (0, 0, 0), (1, 0, 939), (2, 0, 4)], [(5, 1, 3)], [])), [(1, 0, (0, [])), (940, 1, (0, [5])), (1, 0, (0, []))]),
  (143, (9, [(0, .inr (.inl 61)), (1, .inl (0, [0])), (2, .inl (0, [3]))], [], [((61, 3), (0, [4])), ((61, 4), (0, [5])), ((61, 11), (4, [])), ((61, 12), (0, [6])), ((61, 18), (0, [7])), ((64, 3), (0, [8]))], ([(3, 0, 5), (4, 1, 940), (5, 0, 940), (6, 0, 939), (7, 0, 30), (8, 0, 5), (0, 0, 0), (1, 0, 939), (2, 0, 4)], [(5, 1, 2)], [])), [(1, 0, (0, [])), (940, 1, (0, [5])), (0, 0, (0, []))])], [], [])
set_option maxRecDepth 1000000 in
theorem ac_512 : af_meth 84 ag_512 ak_512.2.2.1 = true := by decide +kernel
theorem aw_512 : af_wfK ak_512.2.1 ak_512.2.2.1 ak_512.2.2.2.2 ag_512.2.2.2.2.2.2.1 = true := by decide +kernel
theorem ah_512 : af_Holds aw_Sh 10 ak_512 := af_soundG (G := ag_512) (K := ak_512) (d := 9) pz_190 rfl rfl rfl rfl aw_512 ac_512 (af_HC ah_377 (by decide) (af_HC ah_490 (by decide) (af_HC ah_493 (by decide) (af_HC ah_510 (by decide) (af_HC ah_507 (by decide) (af_HC ah_505 (by decide) (af_HC ah_509 (by decide) (af_HC ah_511 (by decide) af_HN))))))))
def ag_513 : af_G := ((11, 2, (some .boolean), mc_185), aw_Sh, [ak_490, ak_493, ak_492, ak_495, ak_496, ak_497, ak_494], 3, ak_513.2.2.2.1, ak_513.2.2.2.2, [], [], [])
set_option maxRecDepth 1000000 in
theorem ac_513 : af_meth 51 ag_513 ak_513.2.2.1 = true := by decide +kernel
theorem aw_513 : af_wfK ak_513.2.1 ak_513.2.2.1 ak_513.2.2.2.2 ag_513.2.2.2.2.2.2.1 = true := by decide +kernel
theorem ah_513 : af_Holds aw_Sh 8 ak_513 := af_soundG (G := ag_513) (K := ak_513) (d := 7) pz_185 rfl rfl rfl rfl aw_513 ac_513 (af_HC ah_490 (by decide) (af_HC ah_493 (by decide) (af_HC ah_492 (by decide) (af_HC ah_495 (by decide) (af_HC ah_496 (by decide) (af_HC ah_497 (by decide) (af_HC ah_494 (by decide) af_HN)))))))
def ag_514 : af_G := ((11, 4, (some .int), mc_184), aw_Sh, [], 1, ak_514.2.2.2.1, ak_514.2.2.2.2, [(2, (1, [(0, .inr (.inl 61)), (1, .inl (27, [])), (2, .inl (0, [0])), (3, .inl (0, []))], [], [], ([(0, 0, 0)], [], [])), [(1, 0, (0, [])), (2147483647, 1, (27, [])), (0, 0, (0, []))])], [], [])
set_option maxRecDepth 1000000 in
theorem ac_514 : af_meth 11 ag_514 ak_514.2.2.1 = true := by decide +kernel
theorem aw_514 : af_wfK ak_514.2.1 ak_514.2.2.1 ak_514.2.2.2.2 ag_514.2.2.2.2.2.2.1 = true := by decide +kernel
theorem ah_514 : af_Holds aw_Sh 1 ak_514 := af_soundG (G := ag_514) (K := ak_514) (d := 0) pz_184 rfl rfl rfl rfl aw_514 ac_514 af_HN
def ag_515 : af_G := ((11, 3, (some .boolean), mc_186), aw_Sh, [ak_493, ak_492, ak_514], 3, ak_515.2.2.2.1, ak_515.2.2.2.2, [], [], [])
set_option maxRecDepth 1000000 in
theorem ac_515 : af_meth 24 ag_515 ak_515.2.2.1 = true := by decide +kernel
theorem aw_515 : af_wfK ak_515.2.1 ak_515.2.2.1 ak_515.2.2.2.2 ag_515.2.2.2.2.2.2.1 = true := by decide +kernel
theorem ah_515 : af_Holds aw_Sh 2 ak_515 := af_soundG (G := ag_515) (K := ak_515) (d := 1) pz_186 rfl rfl rfl rfl aw_515 ac_515 (af_HC ah_493 (by decide) (af_HC ah_492 (by decide) (af_HC ah_514 (by decide) af_HN)))
def ag_516 : af_G := ((11, 3, (some .boolean), mc_187), aw_Sh, [ak_515], 3, ak_516.2.2.2.1, ak_516.2.2.2.2, [], [], [])
set_option maxRecDepth 1000000 in
theorem ac_516 : af_meth 13 ag_516 ak_516.2.2.1 = true := by decide +kernel
theorem aw_516 : af_wfK ak_516.2.1 ak_516.2.2.1 ak_516.2.2.2.2 ag_516.2.2.2.2.2.2.1 = true := by decide +kernel
theorem ah_516 : af_Holds aw_Sh 3 ak_516 := af_soundG (G := ag_516) (K := ak_516) (d := 2) pz_187 rfl rfl rfl rfl aw_516 ac_516 (af_HC ah_515 (by decide) af_HN)
def ag_517 : af_G := ((11, 3, (some .boolean), mc_186), aw_Sh, [ak_493, ak_492, ak_497], 3, ak_517.2.2.2.1, ak_517.2.2.2.2, [], [], [])
set_option maxRecDepth 1000000 in
theorem ac_517 : af_meth 24 ag_517 ak_517.2.2.1 = true := by decide +kernel
theorem aw_517 : af_wfK ak_517.2.1 ak_517.2.2.1 ak_517.2.2.2.2 ag_517.2.2.2.2.2.2.1 = true := by decide +kernel
theorem ah_517 : af_Holds aw_Sh 2 ak_517 := af_soundG (G := ag_517) (K := ak_517) (d := 1) pz_186 rfl rfl rfl rfl aw_517 ac_517 (af_HC ah_493 (by decide) (af_HC ah_492 (by decide) (af_HC ah_497 (by decide) af_HN)))
def ag_518 : af_G := ((11, 3, (some .boolean), mc_191), aw_Sh, [ak_490, ak_493, ak_510, ak_517, ak_499], 2, ak_518.2.2.2.1, ak_518.2.2.2.2, [(50, (8, [(0, .inr (.inl 61)), (1, .inl (0, [2])), (2, .inl (0, [3]))], [], [((61, 3), (0, [4])), ((61, 4), (0, [5])), ((61, 11), (0, [])), ((61, 13), (0, [])), ((61, 18), (0, [6])), ((64, 4), (0, [7]))], ([(2, 0, 5), (3, 0, 8), (4, 1, 940), (5, 0, 940), (6, 0, 9), (7, 1, 6), (0, 0, 939), (1, 0, 4)], [(5, 0, 1)], [])), [(1, 0, (0, [])), (940, 1, (0, [5])), (0, 0, (0, []))]),
  (50, (11, [(0, .inr (.inl 61)), (1, .inl (0, [2])), (2, .inl (0, [3]))], [], [((61, 3), (0, [4])), ((61, 4), (0, [5])), ((61, 11), (0, [6])), ((61, 12), (0, [7])), ((61, 13), (0, [8])), ((61, 18), (0, [9])), ((64, 4), (0, [10]))], ([(2, 0, 5), (3, 0, 8), (4, 1, 940), (5, 1, 940), (6, 1, 3), (7, 0, 939), (8, (-2147483648), 7), (9, 0, 9), (10, 1, 6), (0, 0, 939), (1, 0, 4)], [(5, 0, 2)], [])), [(1, 0, (0, [])), (940, 1, (0, [5])), (1, 0, (0, []))]),
  (50, (9, [(0, .inr (.inl 61)), (1, .inl (0, [2])), (2, .inl (0, [3]))], [], [((61, 3), (0, [4])), ((61, 4), (0, [5])), ((61, 11), (4, [])), ((61, 12), (0, [6])), ((61, 18), (0, [7])), ((64, 4), (0, [8]))], ([(2, 0, 5), (3, 0, 8), (4, 1, 940), (5, 0, 940), (6, 0, 939), (7, 0, 9), (8, 1, 6), (0, 0, 939), (1, 0, 4)], [(5, 0, 1)], [])), [(1, 0, (0, [])), (940, 1, (0, [5])), (0, 0, (0, []))])], [], [])
set_option maxRecDepth 1000000 in
theorem ac_518 : af_meth 39 ag_518 ak_518.2.2.1 = true := by decide +kernel
theorem aw_518 : af_wfK ak_518.2.1 ak_518.2.2.1 ak_518.2.2.2.2 ag_518.2.2.2.2.2.2.1 = true := by decide +kernel
theorem ah_518 : af_Holds aw_Sh 8 ak_518 := af_soundG (G := ag_518) (K := ak_518) (d := 7) pz_191 rfl rfl rfl rfl aw_518 ac_518 (af_HC ah_490 (by decide) (af_HC ah_493 (by decide) (af_HC ah_510 (by decide) (af_HC ah_517 (by decide) (af_HC ah_499 (by decide) af_HN)))))
def ag_519 : af_G := ((11, 4, (some .int), mc_184), aw_Sh, [], 1, ak_519.2.2.2.1, ak_519.2.2.2.2, [(2, (1, [(0, .inr (.inl 61)), (1, .inl (48, [])), (2, .inl (0, [0])), (3, .inl (0, []))], [], [], ([(0, 0, 0)], [], [])), [(1, 0, (0, [])), (2147483647, 1, (48, [])), (0, 0, (0, []))])], [], [])
set_option maxRecDepth 1000000 in
theorem ac_519 : af_meth 11 ag_519 ak_519.2.2.1 = true := by decide +kernel
theorem aw_519 : af_wfK ak_519.2.1 ak_519.2.2.1 ak_519.2.2.2.2 ag_519.2.2.2.2.2.2.1 = true := by decide +kernel
theorem ah_519 : af_Holds aw_Sh 1 ak_519 := af_soundG (G := ag_519) (K := ak_519) (d := 0) pz_184 rfl rfl rfl rfl aw_519 ac_519 af_HN
def ag_520 : af_G := ((11, 3, (some .boolean), mc_186), aw_Sh, [ak_493, ak_492, ak_519], 3, ak_520.2.2.2.1, ak_520.2.2.2.2, [], [], [])
set_option maxRecDepth 1000000 in
theorem ac_520 : af_meth 24 ag_520 ak_520.2.2.1 = true := by decide +kernel
theorem aw_520 : af_wfK ak_520.2.1 ak_520.2.2.1 ak_520.2.2.2.2 ag_520.2.2.2.2.2.2.1 = true := by decide +kernel
theorem ah_520 : af_Holds aw_Sh 2 ak_520 := af_soundG (G := ag_520) (K := ak_520) (d := 1) pz_186 rfl rfl rfl rfl aw_520 ac_520 (af_HC ah_493 (by decide) (af_HC ah_492 (by decide) (af_HC ah_519 (by decide) af_HN)))
def ag_521 : af_G := ((11, 3, (some .boolean), mc_186), aw_Sh, [ak_493, ak_492, ak_496], 3, ak_521.2.2.2.1, ak_521.2.2.2.2, [], [], [])
set_option maxRecDepth 1000000 in
theorem ac_521 : af_meth 24 ag_521 ak_521.2.2.1 = true := by decide +kernel
theorem aw_521 : af_wfK ak_521.2.1 ak_521.2.2.1 ak_521.2.2.2.2 ag_521.2.2.2.2.2.2.1 = true := by decide +kernel
theorem ah_521 : af_Holds aw_Sh 2 ak_521 := af_soundG (G := ag_521) (K := ak_521) (d := 1) pz_186 rfl rfl rfl rfl aw_521 ac_521 (af_HC ah_493 (by decide) (af_HC ah_492 (by decide) (af_HC ah_496 (by decide) af_HN)))
def ag_522 : af_G := ((11, 3, (some .boolean), mc_187), aw_Sh, [ak_490, ak_521], 3, ak_522.2.2.2.1, ak_522.2.2.2.2, [], [], [])
set_option maxRecDepth 1000000 in
theorem ac_522 : af_meth 15 ag_522 ak_522.2.2.1 = true := by decide +kernel
theorem aw_522 : af_wfK ak_522.2.1 ak_522.2.2.1 ak_522.2.2.2.2 ag_522.2.2.2.2.2.2.1 = true := by decide +kernel
theorem ah_522 : af_Holds aw_Sh 8 ak_522 := af_soundG (G := ag_522) (K := ak_522) (d := 7) pz_187 rfl rfl rfl rfl aw_522 ac_522 (af_HC ah_490 (by decide) (af_HC ah_521 (by decide) af_HN))
def ag_523 : af_G := ((11, 2, (some .boolean), mc_188), aw_Sh, [ak_490, ak_493, ak_491, ak_498, ak_513, ak_504, ak_515, ak_520, ak_516, ak_522, ak_503, ak_512, ak_518], 4, ak_523.2.2.2.1, ak_523.2.2.2.2, [], [], [])
set_option maxRecDepth 1000000 in
theorem ac_523 : af_meth 65 ag_523 ak_523.2.2.1 = true := by decide +kernel
theorem aw_523 : af_wfK ak_523.2.1 ak_523.2.2.1 ak_523.2.2.2.2 ag_523.2.2.2.2.2.2.1 = true := by decide +kernel
theorem ah_523 : af_Holds aw_Sh 11 ak_523 := af_soundG (G := ag_523) (K := ak_523) (d := 10) pz_188 rfl rfl rfl rfl aw_523 ac_523 (af_HC ah_490 (by decide) (af_HC ah_493 (by decide) (af_HC ah_491 (by decide) (af_HC ah_498 (by decide) (af_HC ah_513 (by decide) (af_HC ah_504 (by decide) (af_HC ah_515 (by decide) (af_HC ah_520 (by decide) (af_HC ah_516 (by decide) (af_HC ah_522 (by decide) (af_HC ah_503 (by decide) (af_HC ah_512 (by decide) (af_HC ah_518 (by decide) af_HN)))))))))))))
def ag_524 : af_G := ((11, 2, (some .boolean), mc_180), aw_Sh, [ak_490, ak_493, ak_510], 3, ak_524.2.2.2.1, ak_524.2.2.2.2, [], [], [])
set_option maxRecDepth 1000000 in
theorem ac_524 : af_meth 14 ag_524 ak_524.2.2.1 = true := by decide +kernel
theorem aw_524 : af_wfK ak_524.2.1 ak_524.2.2.1 ak_524.2.2.2.2 ag_524.2.2.2.2.2.2.1 = true := by decide +kernel
theorem ah_524 : af_Holds aw_Sh 8 ak_524 := af_soundG (G := ag_524) (K := ak_524) (d := 7) pz_180 rfl rfl rfl rfl aw_524 ac_524 (af_HC ah_490 (by decide) (af_HC ah_493 (by decide) (af_HC ah_510 (by decide) af_HN)))
def ag_525 : af_G := ((11, 2, (some .boolean), mc_185), aw_Sh, [ak_490, ak_493, ak_492, ak_495, ak_496, ak_497, ak_494], 3, ak_525.2.2.2.1, ak_525.2.2.2.2, [], [], [])
set_option maxRecDepth 1000000 in
theorem ac_525 : af_meth 51 ag_525 ak_525.2.2.1 = true := by decide +kernel
theorem aw_525 : af_wfK ak_525.2.1 ak_525.2.2.1 ak_525.2.2.2.2 ag_525.2.2.2.2.2.2.1 = true := by decide +kernel
theorem ah_525 : af_Holds aw_Sh 8 ak_525 := af_soundG (G := ag_525) (K := ak_525) (d := 7) pz_185 rfl rfl rfl rfl aw_525 ac_525 (af_HC ah_490 (by decide) (af_HC ah_493 (by decide) (af_HC ah_492 (by decide) (af_HC ah_495 (by decide) (af_HC ah_496 (by decide) (af_HC ah_497 (by decide) (af_HC ah_494 (by decide) af_HN)))))))
def ag_526 : af_G := ((11, 4, (some .int), mc_184), aw_Sh, [], 1, ak_526.2.2.2.1, ak_526.2.2.2.2, [(2, (2, [(0, .inr (.inl 61)), (1, .inl (27, [])), (2, .inl (0, [0])), (3, .inl (0, [1]))], [], [], ([(1, 0, 1), (0, 0, 1)], [], [])), [(1, 0, (0, [])), (2147483647, 1, (0, [1])), (0, 0, (0, []))])], [], [])
set_option maxRecDepth 1000000 in
theorem ac_526 : af_meth 21 ag_526 ak_526.2.2.1 = true := by decide +kernel
theorem aw_526 : af_wfK ak_526.2.1 ak_526.2.2.1 ak_526.2.2.2.2 ag_526.2.2.2.2.2.2.1 = true := by decide +kernel
theorem ah_526 : af_Holds aw_Sh 1 ak_526 := af_soundG (G := ag_526) (K := ak_526) (d := 0) pz_184 rfl rfl rfl rfl aw_526 ac_526 af_HN
def ag_527 : af_G := ((11, 3, (some .boolean), mc_186), aw_Sh, [ak_493, ak_492, ak_526], 3, ak_527.2.2.2.1, ak_527.2.2.2.2, [], [], [])
set_option maxRecDepth 1000000 in
theorem ac_527 : af_meth 24 ag_527 ak_527.2.2.1 = true := by decide +kernel
theorem aw_527 : af_wfK ak_527.2.1 ak_527.2.2.1 ak_527.2.2.2.2 ag_527.2.2.2.2.2.2.1 = true := by decide +kernel
theorem ah_527 : af_Holds aw_Sh 2 ak_527 := af_soundG (G := ag_527) (K := ak_527) (d := 1) pz_186 rfl rfl rfl rfl aw_527 ac_527 (af_HC ah_493 (by decide) (af_HC ah_492 (by decide) (af_HC ah_526 (by decide) af_HN)))
def ag_528 : af_G := ((11, 3, (some .boolean), mc_187), aw_Sh, [ak_490, ak_527], 3, ak_528.2.2.2.1, ak_528.2.2.2.2, [], [], [])
set_option maxRecDepth 1000000 in
theorem ac_528 : af_meth 15 ag_528 ak_528.2.2.1 = true := by decide +kernel
theorem aw_528 : af_wfK ak_528.2.1 ak_528.2.2.1 ak_528.2.2.2.2 ag_528.2.2.2.2.2.2.1 = true := by decide +kernel
theorem ah_528 : af_Holds aw_Sh 8 ak_528 := af_soundG (G := ag_528) (K := ak_528) (d := 7) pz_187 rfl rfl rfl rfl aw_528 ac_528 (af_HC ah_490 (by decide) (af_HC ah_527 (by decide) af_HN))
def ag_529 : af_G := ((11, 3, (some .boolean), mc_167), aw_Sh, [], 1, ak_529.2.2.2.1, ak_529.2.2.2.2, [], [], [])
set_option maxRecDepth 1000000 in
theorem ac_529 : af_meth 15 ag_529 ak_529.2.2.1 = true := by decide +kernel
theorem aw_529 : af_wfK ak_529.2.1 ak_529.2.2.1 ak_529.2.2.2.2 ag_529.2.2.2.2.2.2.1 = true := by decide +kernel
theorem ah_529 : af_Holds aw_Sh 1 ak_529 := af_soundG (G := ag_529) (K := ak_529) (d := 0) pz_167 rfl rfl rfl rfl aw_529 ac_529 af_HN
def ag_530 : af_G := ((11, 3, (some .boolean), mc_182), aw_Sh, [ak_529, ak_490, ak_493], 2, ak_530.2.2.2.1, ak_530.2.2.2.2, [], [], [])
set_option maxRecDepth 1000000 in
theorem ac_530 : af_meth 24 ag_530 ak_530.2.2.1 = true := by decide +kernel
theorem aw_530 : af_wfK ak_530.2.1 ak_530.2.2.1 ak_530.2.2.2.2 ag_530.2.2.2.2.2.2.1 = true := by decide +kernel
theorem ah_530 : af_Holds aw_Sh 8 ak_530 := af_soundG (G := ag_530) (K := ak_530) (d := 7) pz_182 rfl rfl rfl rfl aw_530 ac_530 (af_HC ah_529 (by decide) (af_HC ah_490 (by decide) (af_HC ah_493 (by decide) af_HN)))
def ag_531 : af_G := ((11, 4, (some .boolean), mc_183), aw_Sh, [ak_530], 3, ak_531.2.2.2.1, ak_531.2.2.2.2, [], [], [])
set_option maxRecDepth 1000000 in
theorem ac_531 : af_meth 19 ag_531 ak_531.2.2.1 = true := by decide +kernel
theorem aw_531 : af_wfK ak_531.2.1 ak_531.2.2.1 ak_531.2.2.2.2 ag_531.2.2.2.2.2.2.1 = true := by decide +kernel
theorem ah_531 : af_Holds aw_Sh 9 ak_531 := af_soundG (G := ag_531) (K := ak_531) (d := 8) pz_183 rfl rfl rfl rfl aw_531 ac_531 (af_HC ah_530 (by decide) af_HN)
def ag_532 : af_G := ((11, 2, (some .boolean), mc_188), aw_Sh, [ak_377, ak_490, ak_493, ak_491, ak_531, ak_513, ak_525, ak_504, ak_520, ak_527, ak_528, ak_522, ak_503, ak_512, ak_518], 4, ak_532.2.2.2.1, ak_532.2.2.2.2, [], [], [])
set_option maxRecDepth 1000000 in
theorem ac_532 : af_meth 90 ag_532 ak_532.2.2.1 = true := by decide +kernel
theorem aw_532 : af_wfK ak_532.2.1 ak_532.2.2.1 ak_532.2.2.2.2 ag_532.2.2.2.2.2.2.1 = true := by decide +kernel
theorem ah_532 : af_Holds aw_Sh 11 ak_532 := af_soundG (G := ag_532) (K := ak_532) (d := 10) pz_188 rfl rfl rfl rfl aw_532 ac_532 (af_HC ah_377 (by decide) (af_HC ah_490 (by decide) (af_HC ah_493 (by decide) (af_HC ah_491 (by decide) (af_HC ah_531 (by decide) (af_HC ah_513 (by decide) (af_HC ah_525 (by decide) (af_HC ah_504 (by decide) (af_HC ah_520 (by decide) (af_HC ah_527 (by decide) (af_HC ah_528 (by decide) (af_HC ah_522 (by decide) (af_HC ah_503 (by decide) (af_HC ah_512 (by decide) (af_HC ah_518 (by decide) af_HN)))))))))))))))
def ag_533 : af_G := ((11, 2, (some .boolean), mc_185), aw_Sh, [ak_490, ak_493, ak_492, ak_495, ak_496, ak_497, ak_494], 3, ak_533.2.2.2.1, ak_533.2.2.2.2, [], [], [])
set_option maxRecDepth 1000000 in
theorem ac_533 : af_meth 51 ag_533 ak_533.2.2.1 = true := by decide +kernel
theorem aw_533 : af_wfK ak_533.2.1 ak_533.2.2.1 ak_533.2.2.2.2 ag_533.2.2.2.2.2.2.1 = true := by decide +kernel
theorem ah_533 : af_Holds aw_Sh 8 ak_533 := af_soundG (G := ag_533) (K := ak_533) (d := 7) pz_185 rfl rfl rfl rfl aw_533 ac_533 (af_HC ah_490 (by decide) (af_HC ah_493 (by decide) (af_HC ah_492 (by decide) (af_HC ah_495 (by decide) (af_HC ah_496 (by decide) (af_HC ah_497 (by decide) (af_HC ah_494 (by decide) af_HN)))))))
def ag_534 : af_G := ((11, 2, (some .boolean), mc_188), aw_Sh, [ak_377, ak_490, ak_493, ak_491, ak_531, ak_513, ak_504, ak_533, ak_520, ak_499, ak_522, ak_500, ak_503, ak_512, ak_518], 4, ak_534.2.2.2.1, ak_534.2.2.2.2, [], [], [])
set_option maxRecDepth 1000000 in
theorem ac_534 : af_meth 90 ag_534 ak_534.2.2.1 = true := by decide +kernel
theorem aw_534 : af_wfK ak_534.2.1 ak_534.2.2.1 ak_534.2.2.2.2 ag_534.2.2.2.2.2.2.1 = true := by decide +kernel
theorem ah_534 : af_Holds aw_Sh 11 ak_534 := af_soundG (G := ag_534) (K := ak_534) (d := 10) pz_188 rfl rfl rfl rfl aw_534 ac_534 (af_HC ah_377 (by decide) (af_HC ah_490 (by decide) (af_HC ah_493 (by decide) (af_HC ah_491 (by decide) (af_HC ah_531 (by decide) (af_HC ah_513 (by decide) (af_HC ah_504 (by decide) (af_HC ah_533 (by decide) (af_HC ah_520 (by decide) (af_HC ah_499 (by decide) (af_HC ah_522 (by decide) (af_HC ah_500 (by decide) (af_HC ah_503 (by decide) (af_HC ah_512 (by decide) (af_HC ah_518 (by decide) af_HN)))))))))))))))
def ag_535 : af_G := ((11, 2, (some .boolean), mc_185), aw_Sh, [ak_490, ak_493, ak_492, ak_495, ak_496, ak_497, ak_494], 3, ak_535.2.2.2.1, ak_535.2.2.2.2, [], [], [])
set_option maxRecDepth 1000000 in
theorem ac_535 : af_meth 51 ag_535 ak_535.2.2.1 = true := by decide +kernel
theorem aw_535 : af_wfK ak_535.2.1 ak_535.2.2.1 ak_535.2.2.2.2 ag_535.2.2.2.2.2.2.1 = true := by decide +kernel
theorem ah_535 : af_Holds aw_Sh 8 ak_535 := af_soundG (G := ag_535) (K := ak_535) (d := 7) pz_185 rfl rfl rfl rfl aw_535 ac_535 (af_HC ah_490 (by decide) (af_HC ah_493 (by decide) (af_HC ah_492 (by decide) (af_HC ah_495 (by decide) (af_HC ah_496 (by decide) (af_HC ah_497 (by decide) (af_HC ah_494 (by decide) af_HN)))))))
def ag_536 : af_G := ((11, 2, (some .boolean), mc_185), aw_Sh, [ak_490, ak_493, ak_492, ak_495, ak_496, ak_497, ak_494], 3, ak_536.2.2.2.1, ak_536.2.2.2.2, [], [], [])
set_option maxRecDepth 1000000 in
theorem ac_536 : af_meth 51 ag_536 ak_536.2.2.1 = true := by decide +kernel
theorem aw_536 : af_wfK ak_536.2.1 ak_536.2.2.1 ak_536.2.2.2.2 ag_536.2.2.2.2.2.2.1 = true := by decide +kernel
theorem ah_536 : af_Holds aw_Sh 8 ak_536 := af_soundG (G := ag_536) (K := ak_536) (d := 7) pz_185 rfl rfl rfl rfl aw_536 ac_536 (af_HC ah_490 (by decide) (af_HC ah_493 (by decide) (af_HC ah_492 (by decide) (af_HC ah_495 (by decide) (af_HC ah_496 (by decide) (af_HC ah_497 (by decide) (af_HC ah_494 (by decide) af_HN)))))))
def ag_537 : af_G := ((11, 4, (some .int), mc_184), aw_Sh, [], 1, ak_537.2.2.2.1, ak_537.2.2.2.2, [(2, (2, [(0, .inr (.inl 61)), (1, .inl (27, [])), (2, .inl (0, [0])), (3, .inl (0, [1]))], [], [], ([(1, 0, 1), (0, 1, 1)], [], [])), [(1, 0, (0, [])), (2147483647, 1, (0, [1])), (0, 0, (0, []))])], [], [])
set_option maxRecDepth 1000000 in
theorem ac_537 : af_meth 21 ag_537 ak_537.2.2.1 = true := by decide +kernel
theorem aw_537 : af_wfK ak_537.2.1 ak_537.2.2.1 ak_537.2.2.2.2 ag_537.2.2.2.2.2.2.1 = true := by decide +kernel
theorem ah_537 : af_Holds aw_Sh 1 ak_537 := af_soundG (G := ag_537) (K := ak_537) (d := 0) pz_184 rfl rfl rfl rfl aw_537 ac_537 af_HN
def ag_538 : af_G := ((11, 3, (some .boolean), mc_186), aw_Sh, [ak_493, ak_492, ak_537], 3, ak_538.2.2.2.1, ak_538.2.2.2.2, [], [], [])
set_option maxRecDepth 1000000 in
theorem ac_538 : af_meth 24 ag_538 ak_538.2.2.1 = true := by decide +kernel
theorem aw_538 : af_wfK ak_538.2.1 ak_538.2.2.1 ak_538.2.2.2.2 ag_538.2.2.2.2.2.2.1 = true := by decide +kernel
theorem ah_538 : af_Holds aw_Sh 2 ak_538 := af_soundG (G := ag_538) (K := ak_538) (d := 1) pz_186 rfl rfl rfl rfl aw_538 ac_538 (af_HC ah_493 (by decide) (af_HC ah_492 (by decide) (af_HC ah_537 (by decide) af_HN)))
def ag_539 : af_G := ((11, 3, (some .boolean), mc_187), aw_Sh, [ak_490, ak_538], 3, ak_539.2.2.2.1, ak_539.2.2.2.2, [], [], [])
set_option maxRecDepth 1000000 in
theorem ac_539 : af_meth 15 ag_539 ak_539.2.2.1 = true := by decide +kernel
theorem aw_539 : af_wfK ak_539.2.1 ak_539.2.2.1 ak_539.2.2.2.2 ag_539.2.2.2.2.2.2.1 = true := by decide +kernel
theorem ah_539 : af_Holds aw_Sh 8 ak_539 := af_soundG (G := ag_539) (K := ak_539) (d := 7) pz_187 rfl rfl rfl rfl aw_539 ac_539 (af_HC ah_490 (by decide) (af_HC ah_538 (by decide) af_HN))
def ag_540 : af_G := ((11, 4, (some .boolean), mc_183), aw_Sh, [ak_530], 3, ak_540.2.2.2.1, ak_540.2.2.2.2, [], [], [])
set_option maxRecDepth 1000000 in
theorem ac_540 : af_meth 19 ag_540 ak_540.2.2.1 = true := by decide +kernel
theorem aw_540 : af_wfK ak_540.2.1 ak_540.2.2.1 ak_540.2.2.2.2 ag_540.2.2.2.2.2.2.1 = true := by decide +kernel
theorem ah_540 : af_Holds aw_Sh 9 ak_540 := af_soundG (G := ag_540) (K := ak_540) (d := 8) pz_183 rfl rfl rfl rfl aw_540 ac_540 (af_HC ah_530 (by decide) af_HN)
def ag_541 : af_G := ((11, 4, (some .int), mc_184), aw_Sh, [], 1, ak_541.2.2.2.1, ak_541.2.2.2.2, [(2, (2, [(0, .inr (.inl 61)), (1, .inl (48, [])), (2, .inl (0, [0])), (3, .inl (0, [1]))], [], [], ([(1, 0, 1), (0, 1, 1)], [], [])), [(1, 0, (0, [])), (2147483647, 1, (0, [1])), (0, 0, (0, []))])], [], [])
set_option maxRecDepth 1000000 in
theorem ac_541 : af_meth 21 ag_541 ak_541.2.2.1 = true := by decide +kernel
theorem aw_541 : af_wfK ak_541.2.1 ak_541.2.2.1 ak_541.2.2.2.2 ag_541.2.2.2.2.2.2.1 = true := by decide +kernel
theorem ah_541 : af_Holds aw_Sh 1 ak_541 := af_soundG (G := ag_541) (K := ak_541) (d := 0) pz_184 rfl rfl rfl rfl aw_541 ac_541 af_HN
def ag_542 : af_G := ((11, 3, (some .boolean), mc_186), aw_Sh, [ak_493, ak_492, ak_541], 3, ak_542.2.2.2.1, ak_542.2.2.2.2, [], [], [])
set_option maxRecDepth 1000000 in
theorem ac_542 : af_meth 24 ag_542 ak_542.2.2.1 = true := by decide +kernel
theorem aw_542 : af_wfK ak_542.2.1 ak_542.2.2.1 ak_542.2.2.2.2 ag_542.2.2.2.2.2.2.1 = true := by decide +kernel
theorem ah_542 : af_Holds aw_Sh 2 ak_542 := af_soundG (G := ag_542) (K := ak_542) (d := 1) pz_186 rfl rfl rfl rfl aw_542 ac_542 (af_HC ah_493 (by decide) (af_HC ah_492 (by decide) (af_HC ah_541 (by decide) af_HN)))
def ag_543 : af_G := ((11, 2, (some .boolean), mc_188), aw_Sh, [ak_377, ak_490, ak_493, ak_491, ak_540, ak_535, ak_536, ak_504, ak_538, ak_542, ak_539, ak_522, ak_503, ak_512, ak_518], 4, ak_543.2.2.2.1, ak_543.2.2.2.2, [], [], [])
set_option maxRecDepth 1000000 in
theorem ac_543 : af_meth 90 ag_543 ak_543.2.2.1 = true := by decide +kernel
theorem aw_543 : af_wfK ak_543.2.1 ak_543.2.2.1 ak_543.2.2.2.2 ag_543.2.2.2.2.2.2.1 = true := by decide +kernel
theorem ah_543 : af_Holds aw_Sh 11 ak_543 := af_soundG (G := ag_543) (K := ak_543) (d := 10) pz_188 rfl rfl rfl rfl aw_543 ac_543 (af_HC ah_377 (by decide) (af_HC ah_490 (by decide) (af_HC ah_493 (by decide) (af_HC ah_491 (by decide) (af_HC ah_540 (by decide) (af_HC ah_535 (by decide) (af_HC ah_536 (by decide) (af_HC ah_504 (by decide) (af_HC ah_538 (by decide) (af_HC ah_542 (by decide) (af_HC ah_539 (by decide) (af_HC ah_522 (by decide) (af_HC ah_503 (by decide) (af_HC ah_512 (by decide) (af_HC ah_518 (by decide) af_HN)))))))))))))))
def ag_544 : af_G := ((11, 2, (some .boolean), mc_185), aw_Sh, [ak_490, ak_493, ak_492, ak_495, ak_496, ak_497, ak_494], 3, ak_544.2.2.2.1, ak_544.2.2.2.2, [], [], [])
set_option maxRecDepth 1000000 in
theorem ac_544 : af_meth 51 ag_544 ak_544.2.2.1 = true := by decide +kernel
theorem aw_544 : af_wfK ak_544.2.1 ak_544.2.2.1 ak_544.2.2.2.2 ag_544.2.2.2.2.2.2.1 = true := by decide +kernel
theorem ah_544 : af_Holds aw_Sh 8 ak_544 := af_soundG (G := ag_544) (K := ak_544) (d := 7) pz_185 rfl rfl rfl rfl aw_544 ac_544 (af_HC ah_490 (by decide) (af_HC ah_493 (by decide) (af_HC ah_492 (by decide) (af_HC ah_495 (by decide) (af_HC ah_496 (by decide) (af_HC ah_497 (by decide) (af_HC ah_494 (by decide) af_HN)))))))
def ag_545 : af_G := ((11, 2, (some .boolean), mc_185), aw_Sh, [ak_490, ak_493, ak_492, ak_495, ak_496, ak_497, ak_494], 3, ak_545.2.2.2.1, ak_545.2.2.2.2, [], [], [])
set_option maxRecDepth 1000000 in
theorem ac_545 : af_meth 51 ag_545 ak_545.2.2.1 = true := by decide +kernel
theorem aw_545 : af_wfK ak_545.2.1 ak_545.2.2.1 ak_545.2.2.2.2 ag_545.2.2.2.2.2.2.1 = true := by decide +kernel
theorem ah_545 : af_Holds aw_Sh 8 ak_545 := af_soundG (G := ag_545) (K := ak_545) (d := 7) pz_185 rfl rfl rfl rfl aw_545 ac_545 (af_HC ah_490 (by decide) (af_HC ah_493 (by decide) (af_HC ah_492 (by decide) (af_HC ah_495 (by decide) (af_HC ah_496 (by decide) (af_HC ah_497 (by decide) (af_HC ah_494 (by decide) af_HN)))))))
def ag_546 : af_G := ((11, 3, (some .boolean), mc_187), aw_Sh, [ak_490, ak_502], 3, ak_546.2.2.2.1, ak_546.2.2.2.2, [], [], [])
set_option maxRecDepth 1000000 in
theorem ac_546 : af_meth 15 ag_546 ak_546.2.2.1 = true := by decide +kernel
theorem aw_546 : af_wfK ak_546.2.1 ak_546.2.2.1 ak_546.2.2.2.2 ag_546.2.2.2.2.2.2.1 = true := by decide +kernel
theorem ah_546 : af_Holds aw_Sh 8 ak_546 := af_soundG (G := ag_546) (K := ak_546) (d := 7) pz_187 rfl rfl rfl rfl aw_546 ac_546 (af_HC ah_490 (by decide) (af_HC ah_502 (by decide) af_HN))
def ag_547 : af_G := ((11, 4, (some .boolean), mc_183), aw_Sh, [ak_530], 3, ak_547.2.2.2.1, ak_547.2.2.2.2, [], [], [])
set_option maxRecDepth 1000000 in
theorem ac_547 : af_meth 19 ag_547 ak_547.2.2.1 = true := by decide +kernel
theorem aw_547 : af_wfK ak_547.2.1 ak_547.2.2.1 ak_547.2.2.2.2 ag_547.2.2.2.2.2.2.1 = true := by decide +kernel
theorem ah_547 : af_Holds aw_Sh 9 ak_547 := af_soundG (G := ag_547) (K := ak_547) (d := 8) pz_183 rfl rfl rfl rfl aw_547 ac_547 (af_HC ah_530 (by decide) af_HN)
def ag_548 : af_G := ((11, 4, (some .int), mc_184), aw_Sh, [], 1, ak_548.2.2.2.1, ak_548.2.2.2.2, [(2, (2, [(0, .inr (.inl 61)), (1, .inl (48, [])), (2, .inl (0, [0])), (3, .inl (0, [1]))], [], [], ([(1, 0, 2), (0, 1, 2)], [], [])), [(1, 0, (0, [])), (2147483647, 1, (0, [1])), (0, 0, (0, []))])], [], [])
set_option maxRecDepth 1000000 in
theorem ac_548 : af_meth 21 ag_548 ak_548.2.2.1 = true := by decide +kernel
theorem aw_548 : af_wfK ak_548.2.1 ak_548.2.2.1 ak_548.2.2.2.2 ag_548.2.2.2.2.2.2.1 = true := by decide +kernel
theorem ah_548 : af_Holds aw_Sh 1 ak_548 := af_soundG (G := ag_548) (K := ak_548) (d := 0) pz_184 rfl rfl rfl rfl aw_548 ac_548 af_HN
def ag_549 : af_G := ((11, 3, (some .boolean), mc_186), aw_Sh, [ak_493, ak_492, ak_548], 3, ak_549.2.2.2.1, ak_549.2.2.2.2, [], [], [])
set_option maxRecDepth 1000000 in
theorem ac_549 : af_meth 24 ag_549 ak_549.2.2.1 = true := by decide +kernel
theorem aw_549 : af_wfK ak_549.2.1 ak_549.2.2.1 ak_549.2.2.2.2 ag_549.2.2.2.2.2.2.1 = true := by decide +kernel
theorem ah_549 : af_Holds aw_Sh 2 ak_549 := af_soundG (G := ag_549) (K := ak_549) (d := 1) pz_186 rfl rfl rfl rfl aw_549 ac_549 (af_HC ah_493 (by decide) (af_HC ah_492 (by decide) (af_HC ah_548 (by decide) af_HN)))
def ag_550 : af_G := ((11, 2, (some .boolean), mc_188), aw_Sh, [ak_377, ak_490, ak_493, ak_491, ak_547, ak_545, ak_504, ak_544, ak_549, ak_502, ak_522, ak_546, ak_503, ak_512, ak_518], 4, ak_550.2.2.2.1, ak_550.2.2.2.2, [], [], [])
set_option maxRecDepth 1000000 in
theorem ac_550 : af_meth 90 ag_550 ak_550.2.2.1 = true := by decide +kernel
theorem aw_550 : af_wfK ak_550.2.1 ak_550.2.2.1 ak_550.2.2.2.2 ag_550.2.2.2.2.2.2.1 = true := by decide +kernel
theorem ah_550 : af_Holds aw_Sh 11 ak_550 := af_soundG (G := ag_550) (K := ak_550) (d := 10) pz_188 rfl rfl rfl rfl aw_550 ac_550 (af_HC ah_377 (by decide) (af_HC ah_490 (by decide) (af_HC ah_493 (by decide) (af_HC ah_491 (by decide) (af_HC ah_547 (by decide) (af_HC ah_545 (by decide) (af_HC ah_504 (by decide) (af_HC ah_544 (by decide) (af_HC ah_549 (by decide) (af_HC ah_502 (by decide) (af_HC ah_522 (by decide) (af_HC ah_546 (by decide) (af_HC ah_503 (by decide) (af_HC ah_512 (by decide) (af_HC ah_518 (by decide) af_HN)))))))))))))))
def ag_551 : af_G := ((11, 2, (some .boolean), mc_185), aw_Sh, [ak_490, ak_493, ak_492, ak_495, ak_496, ak_497, ak_494], 3, ak_551.2.2.2.1, ak_551.2.2.2.2, [], [], [])
set_option maxRecDepth 1000000 in
theorem ac_551 : af_meth 51 ag_551 ak_551.2.2.1 = true := by decide +kernel
theorem aw_551 : af_wfK ak_551.2.1 ak_551.2.2.1 ak_551.2.2.2.2 ag_551.2.2.2.2.2.2.1 = true := by decide +kernel
theorem ah_551 : af_Holds aw_Sh 8 ak_551 := af_soundG (G := ag_551) (K := ak_551) (d := 7) pz_185 rfl rfl rfl rfl aw_551 ac_551 (af_HC ah_490 (by decide) (af_HC ah_493 (by decide) (af_HC ah_492 (by decide) (af_HC ah_495 (by decide) (af_HC ah_496 (by decide) (af_HC ah_497 (by decide) (af_HC ah_494 (by decide) af_HN)))))))
def ag_552 : af_G := ((11, 4, (some .boolean), mc_183), aw_Sh, [ak_530], 3, ak_552.2.2.2.1, ak_552.2.2.2.2, [], [], [])
set_option maxRecDepth 1000000 in
theorem ac_552 : af_meth 19 ag_552 ak_552.2.2.1 = true := by decide +kernel
theorem aw_552 : af_wfK ak_552.2.1 ak_552.2.2.1 ak_552.2.2.2.2 ag_552.2.2.2.2.2.2.1 = true := by decide +kernel
theorem ah_552 : af_Holds aw_Sh 9 ak_552 := af_soundG (G := ag_552) (K := ak_552) (d := 8) pz_183 rfl rfl rfl rfl aw_552 ac_552 (af_HC ah_530 (by decide) af_HN)
def ag_553 : af_G := ((11, 4, (some .int), mc_184), aw_Sh, [], 1, ak_553.2.2.2.1, ak_553.2.2.2.2, [(2, (2, [(0, .inr (.inl 61)), (1, .inl (48, [])), (2, .inl (0, [0])), (3, .inl (0, [1]))], [], [], ([(1, 0, 6), (0, 1, 6)], [], [])), [(1, 0, (0, [])), (2147483647, 1, (0, [1])), (0, 0, (0, []))])], [], [])
set_option maxRecDepth 1000000 in
theorem ac_553 : af_meth 21 ag_553 ak_553.2.2.1 = true := by decide +kernel
theorem aw_553 : af_wfK ak_553.2.1 ak_553.2.2.1 ak_553.2.2.2.2 ag_553.2.2.2.2.2.2.1 = true := by decide +kernel
theorem ah_553 : af_Holds aw_Sh 1 ak_553 := af_soundG (G := ag_553) (K := ak_553) (d := 0) pz_184 rfl rfl rfl rfl aw_553 ac_553 af_HN
def ag_554 : af_G := ((11, 3, (some .boolean), mc_186), aw_Sh, [ak_493, ak_492, ak_553], 3, ak_554.2.2.2.1, ak_554.2.2.2.2, [], [], [])
set_option maxRecDepth 1000000 in
theorem ac_554 : af_meth 24 ag_554 ak_554.2.2.1 = true := by decide +kernel
theorem aw_554 : af_wfK ak_554.2.1 ak_554.2.2.1 ak_554.2.2.2.2 ag_554.2.2.2.2.2.2.1 = true := by decide +kernel
theorem ah_554 : af_Holds aw_Sh 2 ak_554 := af_soundG (G := ag_554) (K := ak_554) (d := 1) pz_186 rfl rfl rfl rfl aw_554 ac_554 (af_HC ah_493 (by decide) (af_HC ah_492 (by decide) (af_HC ah_553 (by decide) af_HN)))
def ag_555 : af_G := ((11, 2, (some .boolean), mc_188), aw_Sh, [ak_377, ak_490, ak_493, ak_491, ak_552, ak_504, ak_551, ak_544, ak_554, ak_502, ak_522, ak_546, ak_503, ak_512, ak_518], 4, ak_555.2.2.2.1, ak_555.2.2.2.2, [], [], [])
set_option maxRecDepth 1000000 in
theorem ac_555 : af_meth 90 ag_555 ak_555.2.2.1 = true := by decide +kernel
theorem aw_555 : af_wfK ak_555.2.1 ak_555.2.2.1 ak_555.2.2.2.2 ag_555.2.2.2.2.2.2.1 = true := by decide +kernel
theorem ah_555 : af_Holds aw_Sh 11 ak_555 := af_soundG (G := ag_555) (K := ak_555) (d := 10) pz_188 rfl rfl rfl rfl aw_555 ac_555 (af_HC ah_377 (by decide) (af_HC ah_490 (by decide) (af_HC ah_493 (by decide) (af_HC ah_491 (by decide) (af_HC ah_552 (by decide) (af_HC ah_504 (by decide) (af_HC ah_551 (by decide) (af_HC ah_544 (by decide) (af_HC ah_554 (by decide) (af_HC ah_502 (by decide) (af_HC ah_522 (by decide) (af_HC ah_546 (by decide) (af_HC ah_503 (by decide) (af_HC ah_512 (by decide) (af_HC ah_518 (by decide) af_HN)))))))))))))))
def ag_556 : af_G := ((11, 2, (some .int), mc_192), aw_Sh, [ak_481, ak_490, ak_524, ak_523, ak_543, ak_532, ak_534, ak_550, ak_555, ak_400], 3, ak_556.2.2.2.1, ak_556.2.2.2.2, [(24, (3, [(0, .inr (.inl 61)), (1, .inl (0, []))], [], [((61, 0), (0, [])), ((61, 2), (0, [])), ((61, 4), (0, [])), ((61, 5), (900, [])), ((61, 15), (0, [])), ((61, 19), (0, [])), ((63, 0), (0, [1])), ((63, 4), (0, [2]))], ([(0, 0, 940), (1, 0, 10), (2, 0, 6)], [], [])), [(7, 0, (0, [])), (2147483647, 1, (0, [])), (0, 0, (0, []))]),
  (24, (3, [(0, .inr (.inl 61)), (1, .inl (1, []))], [], [((61, 0), (0, [])), ((61, 2), (0, [])), ((61, 4), (0, [])), ((61, 5), (900, [])), ((61, 15), (0, [])), ((61, 19), (0, [])), ((63, 0), (0, [1])), ((63, 4), (0, [2])), ((64, 0), (0, []))], ([(0, 0, 940), (1, 0, 10), (2, 0, 6)], [], [])), [(7, 0, (0, [])), (2147483647, 1, (1, [])), (0, 0, (0, []))]),
  (24, (3, [(0, .inr (.inl 61)), (1, .inl (2, []))], [], [((61, 0), (0, [])), ((61, 2), (0, [])), ((61, 4), (0, [])), ((61, 5), (900, [])), ((61, 15), (0, [])), ((61, 19), (0, [])), ((63, 0), (0, [1])), ((63, 4), (0, [2])), ((64, 0), (0, []))], ([(0, 0, 940), (1, 0, 10), (2, 0, 6)], [], [])), [(7, 0, (0, [])), (2147483647, 1, (2, [])), (0, 0, (0, []))]),
  (24, (3, [(0, .inr (.inl 61)), (1, .inl (3, []))], [], [((61, 0), (0, [])), ((61, 2), (0, [])), ((61, 4), (0, [])), ((61, 5), (900, [])), ((61, 15), (0, [])), ((61, 19), (0, [])), ((63, 0), (0, [1])), ((63, 4), (0, [2])), ((64, 0), (0, []))], ([(0, 0, 940), (1, 0, 10), (2, 0, 6)], [], [])), [(7, 0, (0, [])), (2147483647, 1, (3, [])), (0, 0, (0, []))]),
  (24, (3, [(0, .inr (.inl 61)), (1, .inl (4, []))], [], [((61, 0), (0, [])), ((61, 2), (0, [])), ((61, 4), (0, [])), ((61, 5), (900, [])), ((61, 15), (0, [])), ((61, 19), (0, [])), ((63, 0), (0, [1])), ((63, 4), (0, [2])), ((64, 0), (0, []))], ([(0, 0, 940), (1, 0, 10), (2, 0, 6)], [], [])), [(7, 0, (0, [])), (2147483647, 1, (4, [])), (0, 0, (0, []))]),
  (24, (4, [(0, .inr (.inl 61)), (1, .inl (0, [3]))], [], [((61, 0), (0, [])), ((61, 2), (0, [])), ((61, 4), (0, [])), ((61, 5), (900, [])), ((61, 15), (0, [])), ((61, 19), (0, [])), ((63, 0), (0, [1])), ((63, 4), (0, [2])), ((64, 0), (0, [])), ((64, 4), (0, []))], ([(3, 5, 115), (0, 0, 940), (1, 0, 10), (2, 0, 6)], [], [])), [(7, 0, (0, [])), (2147483647, 1, (0, [3])), (0, 0, (0, []))]),
  (47, (7, [(0, .inr (.inl 61)), (1, .inl (0, [3]))], [], [((61, 0), (0, [])), ((61, 2), (0, [])), ((61, 3), (0, [4])), ((61, 4), (0, [5])), ((61, 5), (900, [])), ((61, 11), (4, [])), ((61, 12), (0, [6])), ((63, 0), (0, [1])), ((63, 4), (0, [2])), ((64, 4), (0, []))], ([(3, 115, 2147483646), (4, 1, 940), (5, 0, 940), (6, 0, 939), (0, 0, 940), (1, 0, 10), (2, 0, 6)], [(5, 0, (-940))], [])), [(6, 0, (0, [])), (940, 1, (0, [5])), (0, 0, (0, []))]),
  (47, (9, [(0, .inr (.inl 61)), (1, .inl (0, [3]))], [], [((61, 0), (0, [])), ((61, 2), (0, [])), ((61, 3), (0, [4])), ((61, 4), (0, [5])), ((61, 5), (900, [])), ((61, 11), (0, [6])), ((61, 12), (0, [7])), ((61, 13), (0, [8])), ((63, 0), (0, [1])), ((63, 4), (0, [2])), ((64, 4), (0, []))], ([(3, 115, 2147483646), (4, 1, 940), (5, 1, 940), (6, 1, 3), (7, 0, 939), (8, (-2147483648), 7), (0, 0, 940), (1, 0, 10), (2, 0, 6)], [(5, 0, (-939))], [])), [(6, 0, (0, [])), (940, 1, (0, [5])), (1, 0, (0, []))]),
  (47, (5, [(0, .inr (.inl 61)), (1, .inl (0, [3]))], [], [((61, 0), (0, [])), ((61, 2), (0, [])), ((61, 4), (0, [4])), ((61, 5), (900, [])), ((61, 11), (0, [])), ((61, 13), (0, [])), ((63, 0), (0, [1])), ((63, 4), (0, [2])), ((64, 4), (0, []))], ([(3, 115, 2147483646), (4, 0, 940), (0, 0, 940), (1, 0, 10), (2, 0, 6)], [(4, 0, (-940))], [])), [(6, 0, (0, [])), (940, 1, (0, [4])), (0, 0, (0, []))]),
  (92, (4, [(0, .inr (.inl 61)), (1, .inl (0, []))], [], [((61, 0), (0, [])), ((61, 2), (0, [])), ((61, 4), (0, [3])), ((61, 5), (900, [])), ((61, 11), (0, [])), ((61, 13), (0, [])), ((63, 0), (0, [1])), ((63, 4), (0, [2])), ((64, 4), (0, []))], ([(3, 0, 940), (0, 0, 940), (1, 0, 10), (2, 0, 6)], [(3, 0, (-940))], [])), [(5, 0, (0, [])), (2147483647, 1, (0, [])), (0, 0, (0, []))]),
  (47, (8, [(0, .inr (.inl 61)), (1, .inl (0, [3]))], [], [((61, 0), (0, [])), ((61, 2), (0, [])), ((61, 3), (0, [4])), ((61, 4), (0, [5])), ((61, 5), (900, [])), ((61, 11), (0, [])), ((61, 13), (0, [])), ((63, 0), (0, [1])), ((63, 4), (0, [2])), ((64, 0), (0, [6])), ((64, 4), (0, [7]))], ([(3, 115, 2147483646), (4, 1, 940), (5, 0, 940), (6, 1, 10), (7, 1, 6), (0, 0, 940), (1, 0, 10), (2, 0, 6)], [(5, 0, (-935))], [])), [(6, 0, (0, [])), (940, 1, (0, [5])), (0, 0, (0, []))]),
  (47, (11, [(0, .inr (.inl 61)), (1, .inl (0, [3]))], [], [((61, 0), (0, [])), ((61, 2), (0, [])), ((61, 3), (0, [4])), ((61, 4), (0, [5])), ((61, 5), (900, [])), ((61, 11), (0, [6])), ((61, 12), (0, [7])), ((61, 13), (0, [8])), ((63, 0), (0, [1])), ((63, 4), (0, [2])), ((64, 0), (0, [9])), ((64, 4), (0, [10]))], ([(3, 115, 2147483646), (4, 1, 940), (5, 1, 940), (6, 1, 3), (7, 0, 939), (8, (-2147483648), 7), (9, 1, 10), (10, 1, 6), (0, 0, 940), (1, 0, 10), (2, 0, 6)], [(5, 0, (-934))], [])), [(6, 0, (0, [])), (940, 1, (0, [5])), (1, 0, (0, []))]),
  (47, (9, [(0, .inr (.inl 61)), (1, .inl (0, [3]))], [], [((61, 0), (0, [])), ((61, 2), (0, [])), ((61, 3), (0, [4])), ((61, 4), (0, [5])), ((61, 5), (900, [])), ((61, 11), (4, [])), ((61, 12), (0, [6])), ((63, 0), (0, [1])), ((63, 4), (0, [2])), ((64, 0), (0, [7])), ((64, 4), (0, [8]))], ([(3, 115, 2147483646), (4, 1, 940), (5, 0, 940), (6, 0, 939), (7, 1, 10), (8, 1, 6), (0, 0, 940), (1, 0, 10), (2, 0, 6)], [(5, 0, (-935))], [])), [(6, 0, (0, [])), (940, 1, (0, [5])), (0, 0, (0, []))]),
  (92, (4, [(0, .inr (.inl 61)), (1, .inl (1, []))], [], [((61, 0), (0, [])), ((61, 2), (0, [])), ((61, 4), (0, [3])), ((61, 5), (900, [])), ((61, 11), (0, [])), ((61, 13), (0, [])), ((63, 4), (0, [2])), ((64, 4), (0, []))], ([(3, 0, 940), (0, 0, 940), (1, 0, 10), (2, 0, 6)], [(3, 0, (-940))], [])), [(5, 0, (0, [])), (2147483647, 1, (1, [])), (0, 0, (0, []))]),
  (92, (7, [(0, .inr (.inl 61)), (1, .inl (0, []))], [], [((61, 0), (0, [])), ((61, 2), (0, [])), ((61, 3), (0, [3])), ((61, 4), (0, [4])), ((61, 5), (900, [])), ((61, 11), (0, [])), ((61, 13), (0, [])), ((63, 0), (0, [1])), ((63, 4), (0, [2])), ((64, 0), (0, [5])), ((64, 4), (0, [6]))], ([(3, 1, 940), (4, 0, 940), (5, 1, 10), (6, 1, 6), (0, 0, 940), (1, 0, 10), (2, 0, 6)], [(4, 0, (-935))], [])), [(5, 0, (0, [])), (2147483647, 1, (0, [])), (0, 0, (0, []))]),
  (92, (4, [(0, .inr (.inl 61)), (1, .inl (2, []))], [], [((61, 0), (0, [])), ((61, 2), (0, [])), ((61, 4), (0, [3])), ((61, 5), (900, [])), ((61, 11), (0, [])), ((61, 13), (0, [])), ((63, 4), (0, [2])), ((64, 4), (0, []))], ([(3, 0, 940), (0, 0, 940), (1, 0, 10), (2, 0, 6)], [(3, 0, (-940))], [])), [(5, 0, (0, [])), (2147483647, 1, (2, [])), (0, 0, (0, []))]),
  (92, (8, [(0, .inr (.inl 61)), (1, .inl (1, []))], [], [((61, 0), (0, [])), ((61, 2), (0, [])), ((61, 3), (0, [3])), ((61, 4), (0, [4])), ((61, 5), (900, [])), ((61, 11), (0, [])), ((61, 13), (0, [])), ((63, 0), (0, [5])), ((63, 4), (0, [2])), ((64, 0), (0, [6])), ((64, 4), (0, [7]))], ([(3, 1, 940), (4, 0, 940), (5, 1, 10), (6, 1, 10), (7, 1, 6), (0, 0, 940), (1, 0, 10), (2, 0, 6)], [(4, 0, (-935))], [])), [(5, 0, (0, [])), (2147483647, 1, (1, [])), (0, 0, (0, []))]),
  (92, (4, [(0, .inr (.inl 61)), (1, .inl (3, []))], [], [((61, 0), (0, [])), ((61, 2), (0, [])), ((61, 4), (0, [3])), ((61, 5), (900, [])), ((61, 11), (0, [])), ((61, 13), (0, [])), ((63, 4), (0, [2])), ((64, 4), (0, []))], ([(3, 0, 940), (0, 0, 940), (1, 0, 10), (2, 0, 6)], [(3, 0, (-940))], [])), [(5, 0, (0, [])), (2147483647, 1, (3, [])), (0, 0, (0, []))]),
  (92, (8, [(0, .inr (.inl 61)), (1, .inl (2, []))], [], [((61, 0), (0, [])), ((61, 2), (0, [])), ((61, 3), (0, [3])), ((61, 4), (0, [4])), ((61, 5), (900, [])), ((61, 11), (0, [])), ((61, 13), (0, [])), ((63, 0), (0, [5])), ((63, 4), (0, [2])), ((64, 0), (0, [6])), ((64, 4), (0, [7]))], ([(3, 1, 940), (4, 0, 940), (5, 1, 10), (6, 1, 10), (7, 1, 6), (0, 0, 940), (1, 0, 10), (2, 0, 6)], [(4, 0, (-935))], [])), [(5, 0, (0, [])), (2147483647, 1, (2, [])), (0, 0, (0, []))]),
  (92, (4, [(0, .inr (.inl 61)), (1, .inl (4, []))], [], [((61, 0), (0, [])), ((61, 2), (0, [])), ((61, 4), (0, [3])), ((61, 5), (900, [])), ((61, 11), (0, [])), ((61, 13), (0, [])), ((63, 4), (0, [2])), ((64, 4), (0, []))], ([(3, 0, 940), (0, 0, 940), (1, 0, 10), (2, 0, 6)], [(3, 0, (-940))], [])), [(5, 0, (0, [])), (2147483647, 1, (4, [])), (0, 0, (0, []))]),
  (92, (8, [(0, .inr (.inl 61)), (1, .inl (3, []))], [], [((61, 0), (0, [])), ((61, 2), (0, [])), ((61, 3), (0, [3])), ((61, 4), (0, [4])), ((61, 5), (900, [])), ((61, 11), (0, [])), ((61, 13), (0, [])), ((63, 0), (0, [5])), ((63, 4), (0, [2])), ((64, 0), (0, [6])), ((64, 4), (0, [7]))], ([(3, 1, 940), (4, 0, 940), (5, 1, 10), (6, 1, 10), (7, 1, 6), (0, 0, 940), (1, 0, 10), (2, 0, 6)], [(4, 0, (-935))], [])), [(5, 0, (0, [])), (2147483647, 1, (3, [])), (0, 0, (0, []))]),
  (92, (5, [(0, .inr (.inl 61)), (1, .inl (0, [3]))], [], [((61, 0), (0, [])), ((61, 2), (0, [])), ((61, 4), (0, [4])), ((61, 5), (900, [])), ((61, 11), (0, [])), ((61, 13), (0, [])), ((63, 4), (0, [])), ((64, 4), (0, []))], ([(3, 5, 411), (4, 0, 940), (0, 0, 940), (1, 0, 10), (2, 0, 6)], [(4, 0, (-940))], [])), [(5, 0, (0, [])), (2147483647, 1, (0, [3])), (0, 0, (0, []))]),
  (92, (8, [(0, .inr (.inl 61)), (1, .inl (4, []))], [], [((61, 0), (0, [])), ((61, 2), (0, [])), ((61, 3), (0, [3])), ((61, 4), (0, [4])), ((61, 5), (900, [])), ((61, 11), (0, [])), ((61, 13), (0, [])), ((63, 0), (0, [5])), ((63, 4), (0, [2])), ((64, 0), (0, [6])), ((64, 4), (0, [7]))], ([(3, 1, 940), (4, 0, 940), (5, 1, 10), (6, 1, 10), (7, 1, 6), (0, 0, 940), (1, 0, 10), (2, 0, 6)], [(4, 0, (-935))], [])), [(5, 0, (0, [])), (2147483647, 1, (4, [])), (0, 0, (0, []))]),
  (92, (10, [(0, .inr (.inl 61)), (1, .inl (0, [3]))], [], [((61, 0), (0, [])), ((61, 2), (0, [])), ((61, 3), (0, [4])), ((61, 4), (0, [5])), ((61, 5), (900, [])), ((61, 11), (0, [])), ((61, 13), (0, [])), ((63, 0), (0, [6])), ((63, 4), (0, [7])), ((64, 0), (0, [8])), ((64, 4), (0, [9]))], ([(3, 5, 411), (4, 1, 940), (5, 0, 940), (6, 1, 10), (7, 1, 6), (8, 1, 10), (9, 1, 6), (0, 0, 940), (1, 0, 10), (2, 0, 6)], [(5, 0, (-935))], [])), [(5, 0, (0, [])), (2147483647, 1, (0, [3])), (0, 0, (0, []))]),
  (129, (5, [(0, .inr (.inl 61)), (1, .inl (0, [3]))], [], [((61, 0), (0, [])), ((61, 2), (0, [])), ((61, 4), (0, [4])), ((61, 5), (900, [])), ((61, 11), (0, [])), ((61, 13), (0, [])), ((63, 4), (0, [])), ((64, 4), (0, []))], ([(3, 0, 27), (4, 0, 940), (0, 0, 940), (1, 0, 10), (2, 0, 6)], [(4, 0, (-940))], [])), [(4, 0, (0, [])), (2147483647, 1, (0, [3])), (0, 0, (0, []))]),
  (129, (10, [(0, .inr (.inl 61)), (1, .inl (0, [3]))], [], [((61, 0), (0, [])), ((61, 2), (0, [])), ((61, 3), (0, [4])), ((61, 4), (0, [5])), ((61, 5), (900, [])), ((61, 11), (0, [])), ((61, 13), (0, [])), ((63, 0), (0, [6])), ((63, 4), (0, [7])), ((64, 0), (0, [8])), ((64, 4), (0, [9]))], ([(3, 0, 27), (4, 1, 940), (5, 0, 940), (6, 1, 10), (7, 1, 6), (8, 1, 10), (9, 1, 6), (0, 0, 940), (1, 0, 10), (2, 0, 6)], [(5, 0, (-935))], [])), [(4, 0, (0, [])), (2147483647, 1, (0, [3])), (0, 0, (0, []))]),
  (158, (5, [(0, .inr (.inl 61)), (1, .inl (0, [3]))], [], [((61, 0), (0, [])), ((61, 2), (0, [])), ((61, 4), (0, [4])), ((61, 5), (900, [])), ((61, 11), (0, [])), ((61, 13), (0, [])), ((63, 4), (0, [])), ((64, 4), (0, []))], ([(3, 0, 10), (4, 0, 940), (0, 0, 940), (1, 0, 10), (2, 0, 6)], [(4, 0, (-940))], [])), [(3, 0, (0, [])), (2147483647, 1, (0, [3])), (0, 0, (0, []))]),
  (158, (10, [(0, .inr (.inl 61)), (1, .inl (0, [3]))], [], [((61, 0), (0, [])), ((61, 2), (0, [])), ((61, 3), (0, [4])), ((61, 4), (0, [5])), ((61, 5), (900, [])), ((61, 11), (0, [])), ((61, 13), (0, [])), ((63, 0), (0, [6])), ((63, 4), (0, [7])), ((64, 0), (0, [8])), ((64, 4), (0, [9]))], ([(3, 0, 10), (4, 1, 940), (5, 0, 940), (6, 1, 10), (7, 1, 6), (8, 1, 10), (9, 1, 6), (0, 0, 940), (1, 0, 10), (2, 0, 6)], [(5, 0, (-935))], [])), [(3, 0, (0, [])), (2147483647, 1, (0, [3])), (0, 0, (0, []))]),
  (191, (4, [(0, .inr (.inl 61)), (1, .inl (0, []))], [], [((61, 0), (0, [])), ((61, 2), (0, [])), ((61, 4), (0, [3])), ((61, 5), (900, [])), ((61, 11), (0, [])), ((61, 13), (0, [])), ((63, 4), (0, [])), ((64, 4), (0, []))], ([(3, 0, 940), (0, 0, 940), (1, 0, 10), (2, 0, 6)], [(3, 0, (-940))], [])), [(2, 0, (0, [])), (2147483647, 1, (0, [])), (0, 0, (0, []))]),
  (227, (4, [(0, .inr (.inl 61)), (1, .inl (0, []))], [], [((61, 0), (0, [])), ((61, 2), (0, [])), ((61, 4), (0, [3])), ((61, 5), (900, [])), ((61, 11), (0, [])), ((61, 13), (0, [])), ((63, 4), (0, [])), ((64, 4), (0, []))], ([(3, 0, 940), (0, 0, 940), (1, 0, 10), (2, 0, 6)], [(3, 0, (-940))], [])), [(1, 0, (0, [])), (2147483647, 1, (0, [])), (0, 0, (0, []))]),
  (191, (10, [(0, .inr (.inl 61)), (1, .inl (0, [3]))], [], [((61, 0), (0, [])), ((61, 2), (0, [])), ((61, 3), (0, [4])), ((61, 4), (0, [5])), ((61, 5), (900, [])), ((61, 11), (0, [])), ((61, 13), (0, [])), ((63, 0), (0, [6])), ((63, 4), (0, [7])), ((64, 0), (0, [8])), ((64, 4), (0, [9]))], ([(3, 0, 6), (4, 1, 940), (5, 0, 940), (6, 1, 10), (7, 1, 6), (8, 1, 10), (9, 1, 6), (0, 0, 940), (1, 0, 10), (2, 0, 6)], [(5, 0, (-935))], [])), [(2, 0, (0, [])), (2147483647, 1, (0, [3])), (0, 0, (0, []))]),
  (227, (10, [(0, .inr (.inl 61)), (1, .inl (0, [3]))], [], [((61, 0), (0, [])), ((61, 2), (0, [])), ((61, 3), (0, [4])), ((61, 4), (0, [5])), ((61, 5), (900, [])), ((61, 11), (0, [])), ((61, 13), (0, [])), ((63, 0), (0, [6])), ((63, 4), (0, [7])), ((64, 0), (0, [8])), ((64, 4), (0, [9]))], ([(3, 0, 6), (4, 1, 940), (5, 0, 940), (6, 1, 10), (7, 1, 6), (8, 1, 10), (9, 1, 6), (0, 0, 940), (1, 0, 10), (2, 0, 6)], [(5, 0, (-935))], [])), [(1, 0, (0, [])), (2147483647, 1, (0, [3])), (0, 0, (0, []))])], [(63, 1, 4), (63, 5, 411), (64, 1, 4), (64, 5, 115)], [])
set_option maxRecDepth 1000000 in
theorem ac_556 : af_meth 26 ag_556 ak_556.2.2.1 = true := by decide +kernel
theorem aw_556 : af_wfK ak_556.2.1 ak_556.2.2.1 ak_556.2.2.2.2 ag_556.2.2.2.2.2.2.1 = true := by decide +kernel
theorem ah_556 : af_Holds aw_Sh 12 ak_556 := af_soundG (G := ag_556) (K := ak_556) (d := 11) pz_192 rfl rfl rfl rfl aw_556 ac_556 (af_HC ah_481 (by decide) (af_HC ah_490 (by decide) (af_HC ah_524 (by decide) (af_HC ah_523 (by decide) (af_HC ah_543 (by decide) (af_HC ah_532 (by decide) (af_HC ah_534 (by decide) (af_HC ah_550 (by decide) (af_HC ah_555 (by decide) (af_HC ah_400 (by decide) af_HN))))))))))
