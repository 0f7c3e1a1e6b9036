/-! the checks; by program -/
def ag_338 : af_G := ((10, 2, none, mc_161), aw_Sh, [], 0, ak_338.2.2.2.1, ak_338.2.2.2.2, [], [], [])
set_option maxRecDepth 1000000 in
theorem ac_338 : af_meth 17 ag_338 ak_338.2.2.1 = true := by decide +kernel
def ag_339 : af_G := ((4, 2, none, mc_36), aw_Sh, [ak_338], 0, ak_339.2.2.2.1, ak_339.2.2.2.2, [], [], [])
set_option maxRecDepth 1000000 in
theorem ac_339 : af_meth 12 ag_339 ak_339.2.2.1 = true := by decide +kernel
def ag_340 : af_G := ((10, 2, none, mc_161), aw_Sh, [], 0, ak_340.2.2.2.1, ak_340.2.2.2.2, [], [], [])
set_option maxRecDepth 1000000 in
theorem ac_340 : af_meth 17 ag_340 ak_340.2.2.1 = true := by decide +kernel
def ag_341 : af_G := ((10, 2, none, mc_161), aw_Sh, [], 0, ak_341.2.2.2.1, ak_341.2.2.2.2, [], [], [])
set_option maxRecDepth 1000000 in
theorem ac_341 : af_meth 17 ag_341 ak_341.2.2.1 = true := by decide +kernel
def ag_342 : af_G := ((10, 2, none, mc_161), aw_Sh, [], 0, ak_342.2.2.2.1, ak_342.2.2.2.2, [], [], [])
set_option maxRecDepth 1000000 in
theorem ac_342 : af_meth 17 ag_342 ak_342.2.2.1 = true := by decide +kernel
def ag_343 : af_G := ((7, 2, none, mc_81), aw_Sh, [ak_340, ak_341, ak_342], 0, ak_343.2.2.2.1, ak_343.2.2.2.2, [], [], [])
set_option maxRecDepth 1000000 in
theorem ac_343 : af_meth 26 ag_343 ak_343.2.2.1 = true := by decide +kernel
def ag_344 : af_G := ((1, 4, none, mc_7), aw_Sh, [ak_337, ak_339, ak_343], 0, ak_344.2.2.2.1, ak_344.2.2.2.2, [], [], [])
set_option maxRecDepth 1000000 in
theorem ac_344 : af_meth 22 ag_344 ak_344.2.2.1 = true := by decide +kernel
def ag_345 : af_G := ((10, 2, (some .boolean), mc_149), aw_Sh, [ak_335, ak_344, ak_326], 1, ak_345.2.2.2.1, ak_345.2.2.2.2, [], [], [])
set_option maxRecDepth 1000000 in
theorem ac_345 : af_meth 23 ag_345 ak_345.2.2.1 = true := by decide +kernel
def ag_346 : af_G := ((10, 2, none, mc_161), aw_Sh, [], 0, ak_346.2.2.2.1, ak_346.2.2.2.2, [], [], [])
set_option maxRecDepth 1000000 in
theorem ac_346 : af_meth 17 ag_346 ak_346.2.2.1 = true := by decide +kernel
def ag_347 : af_G := ((2, 2, none, mc_11), aw_Sh, [ak_346], 0, ak_347.2.2.2.1, ak_347.2.2.2.2, [], [], [])
set_option maxRecDepth 1000000 in
theorem ac_347 : af_meth 26 ag_347 ak_347.2.2.1 = true := by decide +kernel
def ag_348 : af_G := ((10, 2, none, mc_161), aw_Sh, [], 0, ak_348.2.2.2.1, ak_348.2.2.2.2, [], [], [])
set_option maxRecDepth 1000000 in
theorem ac_348 : af_meth 17 ag_348 ak_348.2.2.1 = true := by decide +kernel
def ag_349 : af_G := ((4, 2, none, mc_36), aw_Sh, [ak_348], 0, ak_349.2.2.2.1, ak_349.2.2.2.2, [], [], [])
set_option maxRecDepth 1000000 in
theorem ac_349 : af_meth 12 ag_349 ak_349.2.2.1 = true := by decide +kernel
def ag_350 : af_G := ((10, 2, none, mc_161), aw_Sh, [], 0, ak_350.2.2.2.1, ak_350.2.2.2.2, [], [], [])
set_option maxRecDepth 1000000 in
theorem ac_350 : af_meth 17 ag_350 ak_350.2.2.1 = true := by decide +kernel
def ag_351 : af_G := ((10, 2, none, mc_161), aw_Sh, [], 0, ak_351.2.2.2.1, ak_351.2.2.2.2, [], [], [])
set_option maxRecDepth 1000000 in
theorem ac_351 : af_meth 17 ag_351 ak_351.2.2.1 = true := by decide +kernel
def ag_352 : af_G := ((10, 2, none, mc_161), aw_Sh, [], 0, ak_352.2.2.2.1, ak_352.2.2.2.2, [], [], [])
set_option maxRecDepth 1000000 in
theorem ac_352 : af_meth 17 ag_352 ak_352.2.2.1 = true := by decide +kernel
def ag_353 : af_G := ((7, 2, none, mc_81), aw_Sh, [ak_350, ak_351, ak_352], 0, ak_353.2.2.2.1, ak_353.2.2.2.2, [], [], [])
set_option maxRecDepth 1000000 in
theorem ac_353 : af_meth 26 ag_353 ak_353.2.2.1 = true := by decide +kernel
def ag_354 : af_G := ((1, 4, none, mc_8), aw_Sh, [ak_347, ak_349, ak_353], 0, ak_354.2.2.2.1, ak_354.2.2.2.2, [], [], [])
set_option maxRecDepth 1000000 in
theorem ac_354 : af_meth 19 ag_354 ak_354.2.2.1 = true := by decide +kernel
def ag_355 : af_G := ((10, 2, none, mc_161), aw_Sh, [], 0, ak_355.2.2.2.1, ak_355.2.2.2.2, [], [], [])
set_option maxRecDepth 1000000 in
theorem ac_355 : af_meth 17 ag_355 ak_355.2.2.1 = true := by decide +kernel
def ag_356 : af_G := ((2, 2, none, mc_11), aw_Sh, [ak_355], 0, ak_356.2.2.2.1, ak_356.2.2.2.2, [], [], [])
set_option maxRecDepth 1000000 in
theorem ac_356 : af_meth 26 ag_356 ak_356.2.2.1 = true := by decide +kernel
def ag_357 : af_G := ((10, 2, none, mc_161), aw_Sh, [], 0, ak_357.2.2.2.1, ak_357.2.2.2.2, [], [], [])
set_option maxRecDepth 1000000 in
theorem ac_357 : af_meth 17 ag_357 ak_357.2.2.1 = true := by decide +kernel
def ag_358 : af_G := ((4, 2, none, mc_36), aw_Sh, [ak_357], 0, ak_358.2.2.2.1, ak_358.2.2.2.2, [], [], [])
set_option maxRecDepth 1000000 in
theorem ac_358 : af_meth 12 ag_358 ak_358.2.2.1 = true := by decide +kernel
def ag_359 : af_G := ((10, 2, none, mc_161), aw_Sh, [], 0, ak_359.2.2.2.1, ak_359.2.2.2.2, [], [], [])
set_option maxRecDepth 1000000 in
theorem ac_359 : af_meth 17 ag_359 ak_359.2.2.1 = true := by decide +kernel
def ag_360 : af_G := ((10, 2, none, mc_161), aw_Sh, [], 0, ak_360.2.2.2.1, ak_360.2.2.2.2, [], [], [])
set_option maxRecDepth 1000000 in
theorem ac_360 : af_meth 17 ag_360 ak_360.2.2.1 = true := by decide +kernel
def ag_361 : af_G := ((10, 2, none, mc_161), aw_Sh, [], 0, ak_361.2.2.2.1, ak_361.2.2.2.2, [], [], [])
set_option maxRecDepth 1000000 in
theorem ac_361 : af_meth 17 ag_361 ak_361.2.2.1 = true := by decide +kernel
def ag_362 : af_G := ((7, 2, none, mc_81), aw_Sh, [ak_359, ak_360, ak_361], 0, ak_362.2.2.2.1, ak_362.2.2.2.2, [], [], [])
set_option maxRecDepth 1000000 in
theorem ac_362 : af_meth 26 ag_362 ak_362.2.2.1 = true := by decide +kernel
def ag_363 : af_G := ((1, 4, none, mc_8), aw_Sh, [ak_356, ak_358, ak_362], 0, ak_363.2.2.2.1, ak_363.2.2.2.2, [], [], [])
set_option maxRecDepth 1000000 in
theorem ac_363 : af_meth 19 ag_363 ak_363.2.2.1 = true := by decide +kernel
def ag_364 : af_G := ((10, 2, (some .boolean), mc_150), aw_Sh, [ak_354, ak_363, ak_114, ak_326], 1, ak_364.2.2.2.1, ak_364.2.2.2.2, [], [], [])
set_option maxRecDepth 1000000 in
theorem ac_364 : af_meth 31 ag_364 ak_364.2.2.1 = true := by decide +kernel
def ag_365 : af_G := ((10, 2, (some .int), mc_159), aw_Sh, [], 1, ak_365.2.2.2.1, ak_365.2.2.2.2, [], [], [])
set_option maxRecDepth 1000000 in
theorem ac_365 : af_meth 17 ag_365 ak_365.2.2.1 = true := by decide +kernel
def ag_366 : af_G := ((10, 2, (some .int), mc_151), aw_Sh, [ak_365], 1, ak_366.2.2.2.1, ak_366.2.2.2.2, [], [], [])
set_option maxRecDepth 1000000 in
theorem ac_366 : af_meth 19 ag_366 ak_366.2.2.1 = true := by decide +kernel
def ag_367 : af_G := ((11, 3, none, mc_164), aw_Sh, [], 2, ak_367.2.2.2.1, ak_367.2.2.2.2, [], [], [])
set_option maxRecDepth 1000000 in
theorem ac_367 : af_meth 87 ag_367 ak_367.2.2.1 = true := by decide +kernel
def ag_368 : af_G := ((11, 3, none, mc_164), aw_Sh, [], 2, ak_368.2.2.2.1, ak_368.2.2.2.2, [], [], [])
set_option maxRecDepth 1000000 in
theorem ac_368 : af_meth 87 ag_368 ak_368.2.2.1 = true := by decide +kernel
def ag_369 : af_G := ((11, 3, none, mc_164), aw_Sh, [], 2, ak_369.2.2.2.1, ak_369.2.2.2.2, [], [], [])
set_option maxRecDepth 1000000 in
theorem ac_369 : af_meth 87 ag_369 ak_369.2.2.1 = true := by decide +kernel
def ag_370 : af_G := ((11, 3, none, mc_164), aw_Sh, [], 2, ak_370.2.2.2.1, ak_370.2.2.2.2, [], [], [])
set_option maxRecDepth 1000000 in
theorem ac_370 : af_meth 87 ag_370 ak_370.2.2.1 = true := by decide +kernel
def ag_371 : af_G := ((11, 3, none, mc_164), aw_Sh, [], 2, ak_371.2.2.2.1, ak_371.2.2.2.2, [], [], [])
set_option maxRecDepth 1000000 in
theorem ac_371 : af_meth 87 ag_371 ak_371.2.2.1 = true := by decide +kernel
def ag_372 : af_G := ((11, 6, (some .int), mc_163), aw_Sh, [ak_367, ak_368, ak_369, ak_370, ak_371], 5, ak_372.2.2.2.1, ak_372.2.2.2.2, [], [], [])
set_option maxRecDepth 1000000 in
theorem ac_372 : af_meth 33 ag_372 ak_372.2.2.1 = true := by decide +kernel
def ag_373 : af_G := ((11, 2, (some .boolean), mc_165), aw_Sh, [], 1, ak_373.2.2.2.1, ak_373.2.2.2.2, [], [], [])
set_option maxRecDepth 1000000 in
theorem ac_373 : af_meth 20 ag_373 ak_373.2.2.1 = true := by decide +kernel
def ag_374 : af_G := ((11, 1, (some .int), mc_193), aw_Sh, [], 0, ak_374.2.2.2.1, ak_374.2.2.2.2, [], [], [])
set_option maxRecDepth 1000000 in
theorem ac_374 : af_meth 12 ag_374 ak_374.2.2.1 = true := by decide +kernel
def ag_375 : af_G := ((11, 3, (some .boolean), mc_167), aw_Sh, [], 2, ak_375.2.2.2.1, ak_375.2.2.2.2, [], [], [])
set_option maxRecDepth 1000000 in
theorem ac_375 : af_meth 15 ag_375 ak_375.2.2.1 = true := by decide +kernel
def ag_376 : af_G := ((11, 2, (some .boolean), mc_196), aw_Sh, [ak_375], 2, ak_376.2.2.2.1, ak_376.2.2.2.2, [], [], [])
set_option maxRecDepth 1000000 in
theorem ac_376 : af_meth 16 ag_376 ak_376.2.2.1 = true := by decide +kernel
def ag_377 : af_G := ((11, 2, (some .boolean), mc_168), aw_Sh, [], 2, ak_377.2.2.2.1, ak_377.2.2.2.2, [], [], [])
set_option maxRecDepth 1000000 in
theorem ac_377 : af_meth 16 ag_377 ak_377.2.2.1 = true := by decide +kernel
def ag_378 : af_G := ((11, 5, (some .int), mc_209), aw_Sh, [ak_377, ak_376], 2, ak_378.2.2.2.1, ak_378.2.2.2.2, [(20, (5, [(0, .inr (.inl 61)), (1, .inl (0, [0])), (2, .inl (0, [1])), (3, .inl (0, [2])), (4, .inl (0, [3]))], [], [((61, 0), (0, [])), ((63, 3), (0, [4]))], ([(2, (-2147483648), 2147483647), (3, 0, 10), (4, 1, 6), (0, 0, 5), (1, (-2147483648), 2147483647)], [], [])), [(1, 0, (0, [])), (2147483647, 1, (0, [3])), (0, 0, (0, []))])], [], [])
set_option maxRecDepth 1000000 in
theorem ac_378 : af_meth 30 ag_378 ak_378.2.2.1 = true := by decide +kernel
def ag_379 : af_G := ((11, 2, (some .boolean), mc_197), aw_Sh, [ak_375], 2, ak_379.2.2.2.1, ak_379.2.2.2.2, [], [], [])
set_option maxRecDepth 1000000 in
theorem ac_379 : af_meth 16 ag_379 ak_379.2.2.1 = true := by decide +kernel
def ag_380 : af_G := ((11, 3, (some .boolean), mc_167), aw_Sh, [], 1, ak_380.2.2.2.1, ak_380.2.2.2.2, [], [], [])
set_option maxRecDepth 1000000 in
theorem ac_380 : af_meth 15 ag_380 ak_380.2.2.1 = true := by decide +kernel
def ag_381 : af_G := ((11, 2, (some .boolean), mc_162), aw_Sh, [], 1, ak_381.2.2.2.1, ak_381.2.2.2.2, [], [], [])
set_option maxRecDepth 1000000 in
theorem ac_381 : af_meth 14 ag_381 ak_381.2.2.1 = true := by decide +kernel
def ag_382 : af_G := ((11, 3, (some .int), mc_210), aw_Sh, [ak_381, ak_380, ak_379], 2, ak_382.2.2.2.1, ak_382.2.2.2.2, [], [], [])
set_option maxRecDepth 1000000 in
theorem ac_382 : af_meth 30 ag_382 ak_382.2.2.1 = true := by decide +kernel
def ag_383 : af_G := ((11, 3, (some .boolean), mc_167), aw_Sh, [], 2, ak_383.2.2.2.1, ak_383.2.2.2.2, [], [], [])
set_option maxRecDepth 1000000 in
theorem ac_383 : af_meth 15 ag_383 ak_383.2.2.1 = true := by decide +kernel
def ag_384 : af_G := ((11, 2, (some .boolean), mc_194), aw_Sh, [ak_383], 2, ak_384.2.2.2.1, ak_384.2.2.2.2, [], [], [])
set_option maxRecDepth 1000000 in
theorem ac_384 : af_meth 16 ag_384 ak_384.2.2.1 = true := by decide +kernel
def ag_385 : af_G := ((11, 5, (some .int), mc_211), aw_Sh, [ak_384], 2, ak_385.2.2.2.1, ak_385.2.2.2.2, [(20, (5, [(0, .inr (.inl 61)), (1, .inl (0, [0])), (2, .inl (0, [1])), (3, .inl (0, [2])), (4, .inl (0, [3]))], [], [((61, 0), (0, [])), ((63, 0), (0, [4]))], ([(2, (-2147483648), 2147483647), (3, 0, 6), (4, 1, 10), (0, 0, 9), (1, (-2147483648), 2147483647)], [], [])), [(1, 0, (0, [])), (2147483647, 1, (0, [3])), (0, 0, (0, []))])], [], [])
set_option maxRecDepth 1000000 in
theorem ac_385 : af_meth 29 ag_385 ak_385.2.2.1 = true := by decide +kernel
def ag_387 : af_G := ((11, 2, (some .int), mc_198), aw_Sh, [], 2, ak_387.2.2.2.1, ak_387.2.2.2.2, [], [], [])
set_option maxRecDepth 1000000 in
theorem ac_387 : af_meth 12 ag_387 ak_387.2.2.1 = true := by decide +kernel
def ag_388 : af_G := ((11, 4, (some .int), mc_202), aw_Sh, [ak_387], 2, ak_388.2.2.2.1, ak_388.2.2.2.2, [], [], [])
set_option maxRecDepth 1000000 in
theorem ac_388 : af_meth 36 ag_388 ak_388.2.2.1 = true := by decide +kernel
def ag_389 : af_G := ((11, 4, (some .boolean), mc_203), aw_Sh, [ak_388], 2, ak_389.2.2.2.1, ak_389.2.2.2.2, [(2, (3, [(0, .inr (.inl 61)), (1, .inl (0, [0])), (2, .inl (0, [1])), (3, .inl (0, [2]))], [], [], ([(2, 0, 6), (0, 0, 5), (1, 0, 5)], [], [])), [(1, 0, (0, [])), (2147483647, 1, (0, [2])), (0, 0, (0, []))])], [], [])
set_option maxRecDepth 1000000 in
theorem ac_389 : af_meth 30 ag_389 ak_389.2.2.1 = true := by decide +kernel
def ag_390 : af_G := ((11, 4, (some .boolean), mc_204), aw_Sh, [ak_388, ak_389], 2, ak_390.2.2.2.1, ak_390.2.2.2.2, [], [], [])
set_option maxRecDepth 1000000 in
theorem ac_390 : af_meth 39 ag_390 ak_390.2.2.1 = true := by decide +kernel
def ag_391 : af_G := ((11, 4, (some .int), mc_205), aw_Sh, [ak_390], 1, ak_391.2.2.2.1, ak_391.2.2.2.2, [(4, (3, [(0, .inr (.inl 61)), (1, .inl (0, [0])), (2, .inl (0, [1])), (3, .inl (0, [2]))], [], [], ([(1, (-2147483648), 2147483647), (2, 0, 6), (0, 0, 5)], [], [])), [(1, 0, (0, [])), (2147483647, 1, (0, [2])), (0, 0, (0, []))])], [], [])
set_option maxRecDepth 1000000 in
theorem ac_391 : af_meth 26 ag_391 ak_391.2.2.1 = true := by decide +kernel
def ag_392 : af_G := ((11, 3, (some .int), mc_212), aw_Sh, [ak_391], 0, ak_392.2.2.2.1, ak_392.2.2.2.2, [(4, (2, [(0, .inr (.inl 61)), (1, .inl (0, [0])), (2, .inl (0, [1]))], [], [], ([(0, (-2147483648), 2147483647), (1, 0, 6)], [], [])), [(1, 0, (0, [])), (2147483647, 1, (0, [1])), (0, 0, (0, []))])], [], [])
set_option maxRecDepth 1000000 in
theorem ac_392 : af_meth 25 ag_392 ak_392.2.2.1 = true := by decide +kernel
def ag_393 : af_G := ((11, 4, (some .int), mc_213), aw_Sh, [ak_386, ak_392], 1, ak_393.2.2.2.1, ak_393.2.2.2.2, [(9, (3, [(0, .inr (.inl 61)), (1, .inl (0, [0])), (2, .inl (0, [1])), (3, .inl (0, [2]))], [], [((61, 0), (0, []))], ([(1, (-2147483648), 2147483647), (2, 0, 10), (0, (-2147483648), 2147483647)], [], [])), [(1, 0, (0, [])), (2147483647, 1, (0, [2])), (0, 0, (0, []))])], [], [])
set_option maxRecDepth 1000000 in
theorem ac_393 : af_meth 24 ag_393 ak_393.2.2.1 = true := by decide +kernel
def ag_394 : af_G := ((11, 3, (some .int), mc_214), aw_Sh, [ak_377], 2, ak_394.2.2.2.1, ak_394.2.2.2.2, [], [], [])
set_option maxRecDepth 1000000 in
theorem ac_394 : af_meth 30 ag_394 ak_394.2.2.1 = true := by decide +kernel
def ag_395 : af_G := ((11, 2, none, mc_237), aw_Sh, [], 1, ak_395.2.2.2.1, ak_395.2.2.2.2, [(11, (2, [(0, .inr (.inl 61)), (1, .inl (0, [1]))], [], [((61, 22), (0, [0]))], ([(1, 0, 805), (0, 8, 8)], [], [])), [(2, 0, (0, [])), (2147483647, 1, (0, [1])), (0, 0, (0, []))]),
  (47, (3, [(0, .inr (.inl 61)), (1, .inl (0, [1]))], [], [((61, 22), (0, [2]))], ([(1, 0, 115), (2, 7, 7), (0, 7, 8)], [], [])), [(1, 0, (0, [])), (2147483647, 1, (0, [1])), (0, 0, (0, []))]),
  (47, (2, [(0, .inr (.inl 61)), (1, .inl (0, [1]))], [], [((61, 22), (0, [0]))], ([(1, 0, 115), (0, 6, 6)], [], [])), [(1, 0, (0, [])), (2147483647, 1, (0, [1])), (0, 0, (0, []))]),
  (47, (2, [(0, .inr (.inl 61)), (1, .inl (0, [1]))], [], [((61, 22), (0, [0]))], ([(1, 0, 115), (0, 5, 5)], [], [])), [(1, 0, (0, [])), (2147483647, 1, (0, [1])), (0, 0, (0, []))]),
  (47, (2, [(0, .inr (.inl 61)), (1, .inl (0, [1]))], [], [((61, 22), (0, [0]))], ([(1, 0, 115), (0, 4, 4)], [], [])), [(1, 0, (0, [])), (2147483647, 1, (0, [1])), (0, 0, (0, []))]),
  (47, (2, [(0, .inr (.inl 61)), (1, .inl (0, [1]))], [], [((61, 22), (0, [0]))], ([(1, 0, 115), (0, 3, 3)], [], [])), [(1, 0, (0, [])), (2147483647, 1, (0, [1])), (0, 0, (0, []))]),
  (47, (2, [(0, .inr (.inl 61)), (1, .inl (0, [1]))], [], [((61, 22), (0, [0]))], ([(1, 0, 115), (0, 2, 2)], [], [])), [(1, 0, (0, [])), (2147483647, 1, (0, [1])), (0, 0, (0, []))]),
  (47, (2, [(0, .inr (.inl 61)), (1, .inl (0, [1]))], [], [((61, 22), (0, [0]))], ([(1, 0, 115), (0, 1, 1)], [], [])), [(1, 0, (0, [])), (2147483647, 1, (0, [1])), (0, 0, (0, []))]),
  (47, (2, [(0, .inr (.inl 61)), (1, .inl (0, [1]))], [], [((61, 22), (0, [0]))], ([(1, 0, 115), (0, 0, 0)], [], [])), [(1, 0, (0, [])), (2147483647, 1, (0, [1])), (0, 0, (0, []))])], [], [(0, 61, 22)])
set_option maxRecDepth 1000000 in
theorem ac_395 : af_meth 26 ag_395 ak_395.2.2.1 = true := by decide +kernel
def ag_396 : af_G := ((11, 2, (some .int), mc_169), aw_Sh, [], 2, ak_396.2.2.2.1, ak_396.2.2.2.2, [], [], [])
set_option maxRecDepth 1000000 in
theorem ac_396 : af_meth 12 ag_396 ak_396.2.2.1 = true := by decide +kernel
def ag_397 : af_G := ((11, 4, none, mc_199), aw_Sh, [ak_387], 3, ak_397.2.2.2.1, ak_397.2.2.2.2, [], [], [])
set_option maxRecDepth 1000000 in
theorem ac_397 : af_meth 28 ag_397 ak_397.2.2.1 = true := by decide +kernel
def ag_398 : af_G := ((11, 2, (some .int), mc_170), aw_Sh, [], 2, ak_398.2.2.2.1, ak_398.2.2.2.2, [], [], [])
set_option maxRecDepth 1000000 in
theorem ac_398 : af_meth 12 ag_398 ak_398.2.2.1 = true := by decide +kernel
def ag_399 : af_G := ((11, 5, none, mc_200), aw_Sh, [ak_377, ak_396, ak_398, ak_387, ak_397], 2, ak_399.2.2.2.1, ak_399.2.2.2.2, [], [], [])
set_option maxRecDepth 1000000 in
theorem ac_399 : af_meth 67 ag_399 ak_399.2.2.1 = true := by decide +kernel
def ag_400 : af_G := ((11, 3, none, mc_201), aw_Sh, [ak_377, ak_399], 1, ak_400.2.2.2.1, ak_400.2.2.2.2, [(2, (2, [(0, .inr (.inl 61)), (1, .inl (0, [0])), (2, .inl (0, [1]))], [], [], ([(1, 0, 6), (0, 0, 5)], [], [])), [(1, 0, (0, [])), (2147483647, 1, (0, [1])), (0, 0, (0, []))])], [], [])
set_option maxRecDepth 1000000 in
theorem ac_400 : af_meth 32 ag_400 ak_400.2.2.1 = true := by decide +kernel
def ag_401 : af_G := ((11, 3, none, mc_215), aw_Sh, [ak_400], 2, ak_401.2.2.2.1, ak_401.2.2.2.2, [], [], [])
set_option maxRecDepth 1000000 in
theorem ac_401 : af_meth 17 ag_401 ak_401.2.2.1 = true := by decide +kernel
def ag_402 : af_G := ((11, 3, none, mc_216), aw_Sh, [ak_401], 2, ak_402.2.2.2.1, ak_402.2.2.2.2, [], [], [])
set_option maxRecDepth 1000000 in
theorem ac_402 : af_meth 21 ag_402 ak_402.2.2.1 = true := by decide +kernel
def ag_403 : af_G := ((11, 4, (some .int), mc_230), aw_Sh, [ak_384, ak_379, ak_394, ak_402, ak_395], 2, ak_403.2.2.2.1, ak_403.2.2.2.2, [], [], [])
set_option maxRecDepth 1000000 in
theorem ac_403 : af_meth 32 ag_403 ak_403.2.2.1 = true := by decide +kernel
def ag_404 : af_G := ((11, 3, (some .boolean), mc_167), aw_Sh, [], 2, ak_404.2.2.2.1, ak_404.2.2.2.2, [], [], [])
set_option maxRecDepth 1000000 in
theorem ac_404 : af_meth 15 ag_404 ak_404.2.2.1 = true := by decide +kernel
def ag_405 : af_G := ((11, 2, (some .boolean), mc_195), aw_Sh, [ak_404], 2, ak_405.2.2.2.1, ak_405.2.2.2.2, [], [], [])
set_option maxRecDepth 1000000 in
theorem ac_405 : af_meth 16 ag_405 ak_405.2.2.1 = true := by decide +kernel
def ag_406 : af_G := ((11, 4, (some .int), mc_206), aw_Sh, [ak_377], 1, ak_406.2.2.2.1, ak_406.2.2.2.2, [(4, (3, [(0, .inr (.inl 61)), (1, .inl (0, [0])), (2, .inl (0, [1])), (3, .inl (0, [2]))], [], [], ([(1, (-2147483648), 2147483647), (2, 0, 6), (0, (-2147483648), 2147483647)], [], [])), [(1, 0, (0, [])), (2147483647, 1, (0, [2])), (0, 0, (0, []))])], [], [])
set_option maxRecDepth 1000000 in
theorem ac_406 : af_meth 28 ag_406 ak_406.2.2.1 = true := by decide +kernel
def ag_407 : af_G := ((11, 2, (some .int), mc_207), aw_Sh, [ak_391, ak_406], 1, ak_407.2.2.2.1, ak_407.2.2.2.2, [], [], [])
set_option maxRecDepth 1000000 in
theorem ac_407 : af_meth 12 ag_407 ak_407.2.2.1 = true := by decide +kernel
def ag_408 : af_G := ((11, 3, (some .int), mc_217), aw_Sh, [ak_377, ak_407], 2, ak_408.2.2.2.1, ak_408.2.2.2.2, [], [], [])
set_option maxRecDepth 1000000 in
theorem ac_408 : af_meth 15 ag_408 ak_408.2.2.1 = true := by decide +kernel
def ag_409 : af_G := ((11, 2, none, mc_218), aw_Sh, [], 1, ak_409.2.2.2.1, ak_409.2.2.2.2, [], [], [])
set_option maxRecDepth 1000000 in
theorem ac_409 : af_meth 25 ag_409 ak_409.2.2.1 = true := by decide +kernel
def ag_410 : af_G := ((11, 3, (some .int), mc_231), aw_Sh, [ak_405, ak_379, ak_408, ak_409, ak_395], 2, ak_410.2.2.2.1, ak_410.2.2.2.2, [], [], [])
set_option maxRecDepth 1000000 in
theorem ac_410 : af_meth 29 ag_410 ak_410.2.2.1 = true := by decide +kernel
def ag_411 : af_G := ((11, 3, (some .boolean), mc_167), aw_Sh, [], 1, ak_411.2.2.2.1, ak_411.2.2.2.2, [], [], [])
set_option maxRecDepth 1000000 in
theorem ac_411 : af_meth 15 ag_411 ak_411.2.2.1 = true := by decide +kernel
def ag_412 : af_G := ((11, 3, (some .int), mc_219), aw_Sh, [ak_377], 2, ak_412.2.2.2.1, ak_412.2.2.2.2, [], [], [])
set_option maxRecDepth 1000000 in
theorem ac_412 : af_meth 21 ag_412 ak_412.2.2.1 = true := by decide +kernel
def ag_413 : af_G := ((11, 3, none, mc_220), aw_Sh, [ak_400], 2, ak_413.2.2.2.1, ak_413.2.2.2.2, [], [], [])
set_option maxRecDepth 1000000 in
theorem ac_413 : af_meth 22 ag_413 ak_413.2.2.1 = true := by decide +kernel
def ag_414 : af_G := ((11, 3, (some .int), mc_232), aw_Sh, [ak_411, ak_379, ak_412, ak_413, ak_395], 2, ak_414.2.2.2.1, ak_414.2.2.2.2, [], [], [])
set_option maxRecDepth 1000000 in
theorem ac_414 : af_meth 31 ag_414 ak_414.2.2.1 = true := by decide +kernel
def ag_415 : af_G := ((11, 4, (some .int), mc_208), aw_Sh, [ak_387], 1, ak_415.2.2.2.1, ak_415.2.2.2.2, [(4, (3, [(0, .inr (.inl 61)), (1, .inl (0, [0])), (2, .inl (0, [1])), (3, .inl (0, [2]))], [], [], ([(1, (-2147483648), 2147483647), (2, 0, 6), (0, 0, 5)], [], [])), [(1, 0, (0, [])), (2147483647, 1, (0, [2])), (0, 0, (0, []))])], [], [])
set_option maxRecDepth 1000000 in
theorem ac_415 : af_meth 25 ag_415 ak_415.2.2.1 = true := by decide +kernel
def ag_416 : af_G := ((11, 2, (some .int), mc_221), aw_Sh, [ak_415], 1, ak_416.2.2.2.1, ak_416.2.2.2.2, [], [], [])
set_option maxRecDepth 1000000 in
theorem ac_416 : af_meth 13 ag_416 ak_416.2.2.1 = true := by decide +kernel
def ag_417 : af_G := ((11, 3, none, mc_222), aw_Sh, [ak_387], 1, ak_417.2.2.2.1, ak_417.2.2.2.2, [(2, (2, [(0, .inr (.inl 61)), (1, .inl (0, [0])), (2, .inl (0, [1]))], [], [], ([(1, 0, 6), (0, 0, 5)], [], [])), [(1, 0, (0, [])), (2147483647, 1, (0, [1])), (0, 0, (0, []))])], [], [])
set_option maxRecDepth 1000000 in
theorem ac_417 : af_meth 23 ag_417 ak_417.2.2.1 = true := by decide +kernel
def ag_418 : af_G := ((11, 2, (some .int), mc_233), aw_Sh, [ak_379, ak_416, ak_417, ak_395], 1, ak_418.2.2.2.1, ak_418.2.2.2.2, [], [], [])
set_option maxRecDepth 1000000 in
theorem ac_418 : af_meth 24 ag_418 ak_418.2.2.1 = true := by decide +kernel
def ag_419 : af_G := ((11, 3, (some .int), mc_223), aw_Sh, [ak_377], 2, ak_419.2.2.2.1, ak_419.2.2.2.2, [], [], [])
set_option maxRecDepth 1000000 in
theorem ac_419 : af_meth 18 ag_419 ak_419.2.2.1 = true := by decide +kernel
def ag_420 : af_G := ((11, 4, none, mc_224), aw_Sh, [ak_399], 2, ak_420.2.2.2.1, ak_420.2.2.2.2, [(18, (3, [(0, .inr (.inl 61)), (1, .inl (0, [0])), (2, .inl (0, [1])), (3, .inl (0, [2]))], [], [], ([(2, 0, 6), (0, 0, 5), (1, 0, 9)], [], [])), [(1, 0, (0, [])), (2147483647, 1, (0, [2])), (0, 0, (0, []))])], [], [])
set_option maxRecDepth 1000000 in
theorem ac_420 : af_meth 26 ag_420 ak_420.2.2.1 = true := by decide +kernel
def ag_421 : af_G := ((11, 3, (some .int), mc_234), aw_Sh, [ak_384, ak_376, ak_419, ak_420, ak_395], 2, ak_421.2.2.2.1, ak_421.2.2.2.2, [], [], [])
set_option maxRecDepth 1000000 in
theorem ac_421 : af_meth 30 ag_421 ak_421.2.2.1 = true := by decide +kernel
def ag_422 : af_G := ((11, 2, (some .int), mc_225), aw_Sh, [], 1, ak_422.2.2.2.1, ak_422.2.2.2.2, [], [], [])
set_option maxRecDepth 1000000 in
theorem ac_422 : af_meth 16 ag_422 ak_422.2.2.1 = true := by decide +kernel
def ag_423 : af_G := ((11, 2, none, mc_226), aw_Sh, [], 1, ak_423.2.2.2.1, ak_423.2.2.2.2, [], [], [])
set_option maxRecDepth 1000000 in
theorem ac_423 : af_meth 22 ag_423 ak_423.2.2.1 = true := by decide +kernel
def ag_424 : af_G := ((11, 2, (some .int), mc_235), aw_Sh, [ak_384, ak_422, ak_423, ak_395], 1, ak_424.2.2.2.1, ak_424.2.2.2.2, [], [], [])
set_option maxRecDepth 1000000 in
theorem ac_424 : af_meth 24 ag_424 ak_424.2.2.1 = true := by decide +kernel
def ag_425 : af_G := ((11, 3, (some .boolean), mc_167), aw_Sh, [], 1, ak_425.2.2.2.1, ak_425.2.2.2.2, [], [], [])
set_option maxRecDepth 1000000 in
theorem ac_425 : af_meth 15 ag_425 ak_425.2.2.1 = true := by decide +kernel
def ag_426 : af_G := ((11, 4, none, mc_227), aw_Sh, [ak_377, ak_401], 1, ak_426.2.2.2.1, ak_426.2.2.2.2, [], [], [])
set_option maxRecDepth 1000000 in
theorem ac_426 : af_meth 76 ag_426 ak_426.2.2.1 = true := by decide +kernel
def ag_427 : af_G := ((11, 2, none, mc_228), aw_Sh, [ak_426], 0, ak_427.2.2.2.1, ak_427.2.2.2.2, [(2, (1, [(0, .inr (.inl 61)), (1, .inl (0, [0]))], [], [], ([(0, 0, 36)], [], [])), [(2, 0, (0, [])), (2147483647, 1, (0, [0])), (0, 0, (0, []))]),
  (69, (1, [(0, .inr (.inl 61)), (1, .inl (0, [0]))], [], [((63, 118), (0, []))], ([(0, 0, 6)], [], [])), [(1, 0, (0, [])), (2147483647, 1, (0, [0])), (0, 0, (0, []))])], [], [])
set_option maxRecDepth 1000000 in
theorem ac_427 : af_meth 31 ag_427 ak_427.2.2.1 = true := by decide +kernel
def ag_428 : af_G := ((11, 3, (some .int), mc_229), aw_Sh, [ak_427], 1, ak_428.2.2.2.1, ak_428.2.2.2.2, [(2, (2, [(0, .inr (.inl 61)), (1, .inl (0, [0])), (2, .inl (0, [1]))], [], [], ([(1, 0, 2147483647), (0, (-2147483648), 2147483647)], [], [])), [(1, 0, (0, [])), (2147483647, 1, (0, [1])), (0, 0, (0, []))])], [], [])
set_option maxRecDepth 1000000 in
theorem ac_428 : af_meth 19 ag_428 ak_428.2.2.1 = true := by decide +kernel
def ag_429 : af_G := ((11, 2, (some .int), mc_236), aw_Sh, [ak_425, ak_428, ak_395], 1, ak_429.2.2.2.1, ak_429.2.2.2.2, [], [], [])
set_option maxRecDepth 1000000 in
theorem ac_429 : af_meth 26 ag_429 ak_429.2.2.1 = true := by decide +kernel
def ag_430 : af_G := ((11, 2, (some .int), mc_238), aw_Sh, [], 0, ak_430.2.2.2.1, ak_430.2.2.2.2, [(26, (2, [(0, .inr (.inl 61)), (1, .inl (0, [0]))], [], [((61, 0), (0, [])), ((61, 22), (0, [1]))], ([(0, 0, 115), (1, 7, 7)], [], [])), [(1, 0, (0, [])), (2147483647, 1, (0, [0])), (0, 0, (0, []))]),
  (26, (2, [(0, .inr (.inl 61)), (1, .inl (0, [0]))], [], [((61, 0), (0, [])), ((61, 22), (0, [1]))], ([(0, 0, 115), (1, 6, 6)], [], [])), [(1, 0, (0, [])), (2147483647, 1, (0, [0])), (0, 0, (0, []))]),
  (26, (2, [(0, .inr (.inl 61)), (1, .inl (0, [0]))], [], [((61, 0), (0, [])), ((61, 22), (0, [1]))], ([(0, 0, 115), (1, 5, 5)], [], [])), [(1, 0, (0, [])), (2147483647, 1, (0, [0])), (0, 0, (0, []))]),
  (26, (2, [(0, .inr (.inl 61)), (1, .inl (0, [0]))], [], [((61, 0), (0, [])), ((61, 22), (0, [1]))], ([(0, 0, 115), (1, 4, 4)], [], [])), [(1, 0, (0, [])), (2147483647, 1, (0, [0])), (0, 0, (0, []))]),
  (26, (2, [(0, .inr (.inl 61)), (1, .inl (0, [0]))], [], [((61, 0), (0, [])), ((61, 22), (0, [1]))], ([(0, 0, 115), (1, 3, 3)], [], [])), [(1, 0, (0, [])), (2147483647, 1, (0, [0])), (0, 0, (0, []))]),
  (26, (2, [(0, .inr (.inl 61)), (1, .inl (0, [0]))], [], [((61, 0), (0, [])), ((61, 22), (0, [1]))], ([(0, 0, 115), (1, 2, 2)], [], [])), [(1, 0, (0, [])), (2147483647, 1, (0, [0])), (0, 0, (0, []))]),
  (26, (2, [(0, .inr (.inl 61)), (1, .inl (0, [0]))], [], [((61, 0), (0, [])), ((61, 22), (0, [1]))], ([(0, 0, 115), (1, 1, 1)], [], [])), [(1, 0, (0, [])), (2147483647, 1, (0, [0])), (0, 0, (0, []))]),
  (26, (2, [(0, .inr (.inl 61)), (1, .inl (0, [0]))], [], [((61, 0), (0, [])), ((61, 22), (0, [1]))], ([(0, 0, 115), (1, 0, 0)], [], [])), [(1, 0, (0, [])), (2147483647, 1, (0, [0])), (0, 0, (0, []))])], [], [(0, 61, 22)])
set_option maxRecDepth 1000000 in
theorem ac_430 : af_meth 26 ag_430 ak_430.2.2.1 = true := by decide +kernel
def ag_431 : af_G := ((11, 3, (some .int), mc_241), aw_Sh, [ak_376, ak_379, ak_387], 2, ak_431.2.2.2.1, ak_431.2.2.2.2, [], [], [])
set_option maxRecDepth 1000000 in
theorem ac_431 : af_meth 27 ag_431 ak_431.2.2.1 = true := by decide +kernel
def ag_432 : af_G := ((11, 3, (some .int), mc_242), aw_Sh, [ak_376, ak_379, ak_388], 2, ak_432.2.2.2.1, ak_432.2.2.2.2, [], [], [])
set_option maxRecDepth 1000000 in
theorem ac_432 : af_meth 23 ag_432 ak_432.2.2.1 = true := by decide +kernel
def ag_433 : af_G := ((11, 2, (some .int), mc_243), aw_Sh, [ak_379, ak_391], 1, ak_433.2.2.2.1, ak_433.2.2.2.2, [], [], [])
set_option maxRecDepth 1000000 in
theorem ac_433 : af_meth 18 ag_433 ak_433.2.2.1 = true := by decide +kernel
def ag_434 : af_G := ((11, 2, (some .int), mc_244), aw_Sh, [ak_379, ak_407], 1, ak_434.2.2.2.1, ak_434.2.2.2.2, [], [], [])
set_option maxRecDepth 1000000 in
theorem ac_434 : af_meth 18 ag_434 ak_434.2.2.1 = true := by decide +kernel
def ag_435 : af_G := ((11, 4, (some .int), mc_245), aw_Sh, [ak_379, ak_388, ak_389], 1, ak_435.2.2.2.1, ak_435.2.2.2.2, [(19, (4, [(0, .inr (.inl 61)), (1, .inl (0, [0])), (2, .inl (0, [1])), (3, .inl (0, [2]))], [], [((61, 0), (0, [])), ((63, 4), (0, [3]))], ([(1, (-2147483648), 2147483647), (2, 0, 6), (3, 1, 6), (0, 0, 5)], [], [])), [(1, 0, (0, [])), (2147483647, 1, (0, [2])), (0, 0, (0, []))])], [], [])
set_option maxRecDepth 1000000 in
theorem ac_435 : af_meth 32 ag_435 ak_435.2.2.1 = true := by decide +kernel
def ag_436 : af_G := ((11, 4, (some .int), mc_246), aw_Sh, [ak_376, ak_390], 1, ak_436.2.2.2.1, ak_436.2.2.2.2, [(19, (4, [(0, .inr (.inl 61)), (1, .inl (0, [0])), (2, .inl (0, [1])), (3, .inl (0, [2]))], [], [((61, 0), (0, [])), ((63, 3), (0, [3]))], ([(1, (-2147483648), 2147483647), (2, 0, 6), (3, 1, 6), (0, 0, 5)], [], [])), [(1, 0, (0, [])), (2147483647, 1, (0, [2])), (0, 0, (0, []))])], [], [])
set_option maxRecDepth 1000000 in
theorem ac_436 : af_meth 26 ag_436 ak_436.2.2.1 = true := by decide +kernel
def ag_437 : af_G := ((11, 3, (some .int), mc_247), aw_Sh, [ak_376, ak_379, ak_387], 2, ak_437.2.2.2.1, ak_437.2.2.2.2, [], [], [])
set_option maxRecDepth 1000000 in
theorem ac_437 : af_meth 44 ag_437 ak_437.2.2.1 = true := by decide +kernel
def ag_438 : af_G := ((11, 5, (some .int), mc_248), aw_Sh, [ak_377, ak_379], 1, ak_438.2.2.2.1, ak_438.2.2.2.2, [(19, (4, [(0, .inr (.inl 61)), (1, .inl (0, [0])), (2, .inl (0, [1])), (3, .inl (0, [2]))], [], [((61, 0), (0, [])), ((63, 4), (0, [3]))], ([(1, (-2147483648), 2147483647), (2, 0, 2147483647), (3, 1, 6), (0, 0, 5)], [], [])), [(2, 0, (0, [])), (2147483647, 1, (0, [2])), (0, 0, (0, [])), (1000, 0, (0, [])), (0, 0, (0, [])), (0, 0, (0, []))]),
  (28, (5, [(0, .inr (.inl 61)), (1, .inl (0, [0])), (2, .inl (0, [1])), (3, .inl (0, [2])), (4, .inl (0, [3]))], [], [((61, 0), (0, [])), ((63, 4), (0, [4]))], ([(1, (-2147483648), 2147483647), (2, 0, 2147483646), (3, 0, 6), (4, 1, 6), (0, 0, 5)], [], [])), [(2, 0, (0, [])), (2147483647, 1, (0, [2])), (0, 0, (0, [])), (1, 0, (0, [])), (2147483647, 1, (0, [3])), (0, 0, (0, []))])], [], [])
set_option maxRecDepth 1000000 in
theorem ac_438 : af_meth 48 ag_438 ak_438.2.2.1 = true := by decide +kernel
def ag_440 : af_G := ((11, 6, (some .int), mc_251), aw_Sh, [ak_384, ak_379, ak_439], 3, ak_440.2.2.2.1, ak_440.2.2.2.2, [(72, (7, [(0, .inr (.inl 61)), (1, .inl (0, [0])), (2, .inl (0, [1])), (3, .inl (0, [2])), (4, .inl (0, [3])), (5, .inl (0, [4]))], [], [((61, 0), (0, [])), ((63, 0), (0, [5])), ((63, 4), (0, [6]))], ([(3, 0, 9), (4, 0, 9), (5, 1, 10), (6, 1, 6), (0, 0, 5), (1, 0, 9), (2, 0, 2147483646)], [], [])), [(1, 0, (0, [])), (2147483647, 1, (0, [4])), (0, 0, (0, []))])], [], [])
set_option maxRecDepth 1000000 in
theorem ac_440 : af_meth 45 ag_440 ak_440.2.2.1 = true := by decide +kernel
def ag_441 : af_G := ((11, 3, (some .boolean), mc_167), aw_Sh, [], 2, ak_441.2.2.2.1, ak_441.2.2.2.2, [], [], [])
set_option maxRecDepth 1000000 in
theorem ac_441 : af_meth 15 ag_441 ak_441.2.2.1 = true := by decide +kernel
def ag_442 : af_G := ((11, 2, (some .int), mc_252), aw_Sh, [ak_441], 1, ak_442.2.2.2.1, ak_442.2.2.2.2, [], [], [])
set_option maxRecDepth 1000000 in
theorem ac_442 : af_meth 23 ag_442 ak_442.2.2.1 = true := by decide +kernel
def ag_443 : af_G := ((11, 6, (some .int), mc_253), aw_Sh, [ak_384, ak_379, ak_388, ak_439], 2, ak_443.2.2.2.1, ak_443.2.2.2.2, [(51, (7, [(0, .inr (.inl 61)), (1, .inl (0, [0])), (2, .inl (0, [1])), (3, .inl (0, [2])), (4, .inl (0, [3])), (5, .inl (0, [4]))], [], [((61, 0), (0, [])), ((63, 0), (0, [5])), ((63, 4), (0, [6]))], ([(2, 0, 9), (3, (-2147483648), 2147483647), (4, 0, 9), (5, 1, 10), (6, 1, 6), (0, 0, 5), (1, 0, 9)], [], [])), [(2, 0, (0, [])), (2147483647, 1, (0, [4])), (0, 0, (0, []))]),
  (87, (7, [(0, .inr (.inl 61)), (1, .inl (0, [0])), (2, .inl (0, [1])), (3, .inl (0, [2])), (4, .inl (0, [3])), (5, .inl (0, [4]))], [], [((61, 0), (0, [])), ((63, 0), (0, [5])), ((63, 4), (0, [6]))], ([(2, 0, 2147483646), (3, (-2147483648), 2147483647), (4, 0, 6), (5, 1, 10), (6, 1, 6), (0, 0, 5), (1, 0, 9)], [], [])), [(1, 0, (0, [])), (2147483647, 1, (0, [4])), (0, 0, (0, []))])], [], [])
set_option maxRecDepth 1000000 in
theorem ac_443 : af_meth 34 ag_443 ak_443.2.2.1 = true := by decide +kernel
def ag_444 : af_G := ((11, 3, (some .boolean), mc_167), aw_Sh, [], 2, ak_444.2.2.2.1, ak_444.2.2.2.2, [], [], [])
set_option maxRecDepth 1000000 in
theorem ac_444 : af_meth 15 ag_444 ak_444.2.2.1 = true := by decide +kernel
def ag_445 : af_G := ((11, 2, (some .boolean), mc_194), aw_Sh, [ak_444], 2, ak_445.2.2.2.1, ak_445.2.2.2.2, [], [], [])
set_option maxRecDepth 1000000 in
theorem ac_445 : af_meth 16 ag_445 ak_445.2.2.1 = true := by decide +kernel
def ag_446 : af_G := ((11, 2, none, mc_239), aw_Sh, [], 0, ak_446.2.2.2.1, ak_446.2.2.2.2, [(2, (1, [(0, .inr (.inl 61)), (1, .inl (0, [0]))], [], [], ([(0, 0, 115)], [], [])), [(1, 0, (0, [])), (2147483647, 1, (0, [0])), (0, 0, (0, []))])], [], [])
set_option maxRecDepth 1000000 in
theorem ac_446 : af_meth 21 ag_446 ak_446.2.2.1 = true := by decide +kernel
def ag_447 : af_G := ((11, 3, (some .boolean), mc_249), aw_Sh, [], 2, ak_447.2.2.2.1, ak_447.2.2.2.2, [], [], [])
set_option maxRecDepth 1000000 in
theorem ac_447 : af_meth 18 ag_447 ak_447.2.2.1 = true := by decide +kernel
def ag_448 : af_G := ((11, 4, (some .boolean), mc_254), aw_Sh, [ak_447, ak_439], 3, ak_448.2.2.2.1, ak_448.2.2.2.2, [], [], [])
set_option maxRecDepth 1000000 in
theorem ac_448 : af_meth 24 ag_448 ak_448.2.2.1 = true := by decide +kernel
def ag_449 : af_G := ((11, 2, none, mc_240), aw_Sh, [], 0, ak_449.2.2.2.1, ak_449.2.2.2.2, [(2, (1, [(0, .inr (.inl 61)), (1, .inl (0, [0]))], [], [], ([(0, 0, 115)], [], [])), [(1, 0, (0, [])), (2147483647, 1, (0, [0])), (0, 0, (0, []))])], [], [])
set_option maxRecDepth 1000000 in
theorem ac_449 : af_meth 21 ag_449 ak_449.2.2.1 = true := by decide +kernel
def ag_450 : af_G := ((11, 7, (some .int), mc_255), aw_Sh, [ak_377, ak_386, ak_445, ak_384, ak_376, ak_446, ak_449, ak_448], 3, ak_450.2.2.2.1, ak_450.2.2.2.2, [(46, (7, [(0, .inr (.inl 61)), (1, .inl (0, [0])), (2, .inl (0, [1])), (3, .inl (0, [2])), (4, .inl (0, [3])), (5, .inl (0, [4]))], [], [((61, 0), (0, [])), ((63, 0), (0, [5])), ((63, 3), (0, [6]))], ([(3, (-1), 2147483646), (4, 0, 2147483647), (5, 1, 10), (6, 1, 6), (0, 0, 9), (1, 0, 9), (2, 0, 5)], [], [])), [(2, 0, (0, [])), (2147483647, 1, (0, [4])), (0, 0, (0, [])), (1000, 0, (0, [])), (0, 0, (0, [])), (0, 0, (0, []))]),
  (101, (8, [(0, .inr (.inl 61)), (1, .inl (0, [0])), (2, .inl (0, [1])), (3, .inl (0, [2])), (4, .inl (0, [3])), (5, .inl (0, [4])), (6, .inl (0, [5]))], [], [((61, 0), (0, [])), ((63, 0), (0, [6])), ((63, 3), (0, [7]))], ([(3, (-1), 2147483646), (4, 0, 2147483646), (5, 0, 10), (6, 1, 10), (7, 1, 6), (0, 0, 9), (1, 0, 9), (2, 0, 5)], [], [])), [(2, 0, (0, [])), (2147483647, 1, (0, [4])), (0, 0, (0, [])), (1, 0, (0, [])), (2147483647, 1, (0, [5])), (0, 0, (0, []))])], [], [])
set_option maxRecDepth 1000000 in
theorem ac_450 : af_meth 32 ag_450 ak_450.2.2.1 = true := by decide +kernel
def ag_451 : af_G := ((11, 3, (some .boolean), mc_167), aw_Sh, [], 1, ak_451.2.2.2.1, ak_451.2.2.2.2, [], [], [])
set_option maxRecDepth 1000000 in
theorem ac_451 : af_meth 15 ag_451 ak_451.2.2.1 = true := by decide +kernel
def ag_452 : af_G := ((11, 4, (some .int), mc_256), aw_Sh, [ak_388], 1, ak_452.2.2.2.1, ak_452.2.2.2.2, [(4, (3, [(0, .inr (.inl 61)), (1, .inl (0, [0])), (2, .inl (0, [1])), (3, .inl (0, [2]))], [], [], ([(1, (-2147483648), 2147483647), (2, 0, 6), (0, 0, 5)], [], [])), [(1, 0, (0, [])), (2147483647, 1, (0, [2])), (0, 0, (0, []))])], [], [])
set_option maxRecDepth 1000000 in
theorem ac_452 : af_meth 27 ag_452 ak_452.2.2.1 = true := by decide +kernel
def ag_453 : af_G := ((11, 7, (some .int), mc_257), aw_Sh, [ak_451, ak_377, ak_386, ak_376, ak_419, ak_420, ak_428, ak_446, ak_449, ak_452], 2, ak_453.2.2.2.1, ak_453.2.2.2.2, [(46, (7, [(0, .inr (.inl 61)), (1, .inl (0, [0])), (2, .inl (0, [1])), (3, .inl (0, [2])), (4, .inl (0, [3])), (5, .inl (0, [4]))], [], [((61, 0), (0, [])), ((63, 0), (0, [5])), ((63, 3), (0, [6]))], ([(2, (-1), 2147483646), (3, (-2147483648), 2147483647), (4, 0, 2147483647), (5, 1, 10), (6, 1, 6), (0, 0, 5), (1, 1, 3)], [], [])), [(2, 0, (0, [])), (2147483647, 1, (0, [4])), (0, 0, (0, [])), (1000, 0, (0, [])), (0, 0, (0, [])), (0, 0, (0, []))]),
  (74, (8, [(0, .inr (.inl 61)), (1, .inl (0, [0])), (2, .inl (0, [1])), (3, .inl (0, [2])), (4, .inl (0, [3])), (5, .inl (0, [4])), (6, .inl (0, [5]))], [], [((61, 0), (0, [])), ((63, 0), (0, [6])), ((63, 3), (0, [7]))], ([(2, (-1), 2147483646), (3, (-2147483648), 2147483647), (4, 0, 2147483646), (5, 0, 10), (6, 1, 10), (7, 1, 6), (0, 0, 5), (1, 1, 3)], [], [])), [(2, 0, (0, [])), (2147483647, 1, (0, [4])), (0, 0, (0, [])), (1, 0, (0, [])), (2147483647, 1, (0, [5])), (0, 0, (0, []))])], [], [])
set_option maxRecDepth 1000000 in
theorem ac_453 : af_meth 35 ag_453 ak_453.2.2.1 = true := by decide +kernel
def ag_454 : af_G := ((11, 1, (some .int), mc_258), aw_Sh, [], 0, ak_454.2.2.2.1, ak_454.2.2.2.2, [], [], [])
set_option maxRecDepth 1000000 in
theorem ac_454 : af_meth 16 ag_454 ak_454.2.2.1 = true := by decide +kernel
def ag_455 : af_G := ((11, 7, (some .int), mc_259), aw_Sh, [ak_377, ak_406], 1, ak_455.2.2.2.1, ak_455.2.2.2.2, [(31, (4, [(0, .inr (.inl 61)), (1, .inl (0, [0])), (2, .inl (0, [1])), (3, .inl (0, [2])), (4, .inl (0, [3]))], [], [((61, 0), (0, []))], ([(1, (-2147483648), 2147483647), (2, 0, 63), (3, 0, 2147483647), (0, 0, 2147483646)], [], [])), [(2, 0, (0, [])), (2147483647, 1, (0, [3])), (0, 0, (0, [])), (1000, 0, (0, [])), (0, 0, (0, [])), (0, 0, (0, []))]),
  (64, (6, [(0, .inr (.inl 61)), (1, .inl (0, [0])), (2, .inl (0, [1])), (3, .inl (0, [2])), (4, .inl (0, [3])), (5, .inl (0, [4])), (6, .inl (0, [5]))], [], [((61, 0), (0, []))], ([(1, (-2147483648), 2147483647), (2, 0, 63), (3, 0, 2147483646), (4, 0, 1), (5, 0, 6), (0, 0, 2147483646)], [], [])), [(2, 0, (0, [])), (2147483647, 1, (0, [3])), (0, 0, (0, [])), (1, 0, (0, [])), (2147483647, 1, (0, [5])), (0, 0, (0, []))])], [], [])
set_option maxRecDepth 1000000 in
theorem ac_455 : af_meth 30 ag_455 ak_455.2.2.1 = true := by decide +kernel
def ag_456 : af_G := ((11, 1, (some .int), mc_260), aw_Sh, [], 0, ak_456.2.2.2.1, ak_456.2.2.2.2, [], [], [])
set_option maxRecDepth 1000000 in
theorem ac_456 : af_meth 16 ag_456 ak_456.2.2.1 = true := by decide +kernel
def ag_457 : af_G := ((11, 6, (some .int), mc_261), aw_Sh, [ak_425, ak_376, ak_379, ak_390, ak_428, ak_446, ak_449], 3, ak_457.2.2.2.1, ak_457.2.2.2.2, [(60, (7, [(0, .inr (.inl 61)), (1, .inl (0, [0])), (2, .inl (0, [1])), (3, .inl (0, [2])), (4, .inl (0, [3])), (5, .inl (0, [4]))], [], [((61, 0), (0, [])), ((63, 3), (0, [5])), ((63, 4), (0, [6]))], ([(3, (-2147483648), 2147483647), (4, 0, 60), (5, 1, 6), (6, 1, 6), (0, 0, 5), (1, 0, 5), (2, 1, 60)], [], [])), [(1, 0, (0, [])), (2147483647, 1, (0, [4])), (0, 0, (0, []))])], [], [])
set_option maxRecDepth 1000000 in
theorem ac_457 : af_meth 33 ag_457 ak_457.2.2.1 = true := by decide +kernel
def ag_458 : af_G := ((11, 2, (some .int), mc_262), aw_Sh, [], 0, ak_458.2.2.2.1, ak_458.2.2.2.2, [], [], [])
set_option maxRecDepth 1000000 in
theorem ac_458 : af_meth 21 ag_458 ak_458.2.2.1 = true := by decide +kernel
def ag_459 : af_G := ((11, 2, (some .int), mc_262), aw_Sh, [], 1, ak_459.2.2.2.1, ak_459.2.2.2.2, [], [], [])
set_option maxRecDepth 1000000 in
theorem ac_459 : af_meth 21 ag_459 ak_459.2.2.1 = true := by decide +kernel
def ag_460 : af_G := ((11, 2, (some .int), mc_262), aw_Sh, [], 0, ak_460.2.2.2.1, ak_460.2.2.2.2, [], [], [])
set_option maxRecDepth 1000000 in
theorem ac_460 : af_meth 21 ag_460 ak_460.2.2.1 = true := by decide +kernel
def ag_461 : af_G := ((11, 2, (some .int), mc_262), aw_Sh, [], 0, ak_461.2.2.2.1, ak_461.2.2.2.2, [], [], [])
set_option maxRecDepth 1000000 in
theorem ac_461 : af_meth 21 ag_461 ak_461.2.2.1 = true := by decide +kernel
def ag_462 : af_G := ((11, 6, (some .int), mc_263), aw_Sh, [ak_394, ak_402, ak_416, ak_417, ak_422, ak_423, ak_427, ak_458, ak_460, ak_461, ak_459], 3, ak_462.2.2.2.1, ak_462.2.2.2.2, [(7, (4, [(0, .inr (.inl 61)), (1, .inl (0, [0])), (2, .inl (0, [1])), (3, .inl (0, [3]))], [], [((63, 0), (0, [2]))], ([(3, 0, 2147483647), (0, (-2147483648), 2147483647), (1, (-2147483648), 2147483647), (2, 1, 10)], [], [])), [(2, 0, (0, [])), (2147483647, 1, (0, [3])), (0, 0, (0, [])), (1000, 0, (0, [])), (0, 0, (0, [])), (0, 0, (0, []))]),
  (63, (6, [(0, .inr (.inl 61)), (1, .inl (0, [0])), (2, .inl (0, [1])), (3, .inl (0, [3])), (4, .inl (0, [4]))], [], [((63, 0), (0, [2])), ((63, 115), (0, [5]))], ([(3, 0, 2147483646), (4, 0, 6), (5, (-2147483648), 399), (0, 1, 2147483647), (1, (-2147483648), 2147483647), (2, 1, 10)], [], [])), [(2, 0, (0, [])), (2147483647, 1, (0, [3])), (0, 0, (0, [])), (1, 0, (0, [])), (2147483647, 1, (0, [4])), (0, 0, (0, []))])], [], [])
set_option maxRecDepth 1000000 in
theorem ac_462 : af_meth 38 ag_462 ak_462.2.2.1 = true := by decide +kernel
def ag_463 : af_G := ((11, 3, (some .int), mc_264), aw_Sh, [ak_425, ak_395, ak_462], 2, ak_463.2.2.2.1, ak_463.2.2.2.2, [], [], [])
set_option maxRecDepth 1000000 in
theorem ac_463 : af_meth 32 ag_463 ak_463.2.2.1 = true := by decide +kernel
def ag_464 : af_G := ((11, 3, (some .boolean), mc_167), aw_Sh, [], 2, ak_464.2.2.2.1, ak_464.2.2.2.2, [], [], [])
set_option maxRecDepth 1000000 in
theorem ac_464 : af_meth 14 ag_464 ak_464.2.2.1 = true := by decide +kernel
def ag_465 : af_G := ((11, 2, (some .boolean), mc_197), aw_Sh, [ak_464], 2, ak_465.2.2.2.1, ak_465.2.2.2.2, [], [], [])
set_option maxRecDepth 1000000 in
theorem ac_465 : af_meth 16 ag_465 ak_465.2.2.1 = true := by decide +kernel
def ag_466 : af_G := ((11, 6, (some .int), mc_265), aw_Sh, [ak_465], 4, ak_466.2.2.2.1, ak_466.2.2.2.2, [], [], [])
set_option maxRecDepth 1000000 in
theorem ac_466 : af_meth 15 ag_466 ak_466.2.2.1 = true := by decide +kernel
def ag_467 : af_G := ((11, 3, (some .boolean), mc_167), aw_Sh, [], 1, ak_467.2.2.2.1, ak_467.2.2.2.2, [], [], [])
set_option maxRecDepth 1000000 in
theorem ac_467 : af_meth 15 ag_467 ak_467.2.2.1 = true := by decide +kernel
def ag_468 : af_G := ((11, 6, (some .int), mc_265), aw_Sh, [ak_467, ak_379, ak_391, ak_446, ak_449, ak_462], 4, ak_468.2.2.2.1, ak_468.2.2.2.2, [(35, (7, [(0, .inr (.inl 61)), (1, .inl (0, [0])), (2, .inl (0, [1])), (3, .inl (0, [2])), (4, .inl (0, [4])), (5, .inl (0, [5]))], [], [((61, 0), (0, [])), ((63, 0), (0, [3])), ((63, 4), (0, [6]))], ([(4, (-2147483648), 2147483647), (5, 0, 30), (6, 1, 6), (0, 0, 5), (1, 1, 30), (2, (-2147483648), 2147483647), (3, 1, 10)], [], [])), [(1, 0, (0, [])), (2147483647, 1, (0, [5])), (0, 0, (0, []))])], [], [])
set_option maxRecDepth 1000000 in
theorem ac_468 : af_meth 29 ag_468 ak_468.2.2.1 = true := by decide +kernel
def ag_469 : af_G := ((11, 3, (some .boolean), mc_167), aw_Sh, [], 1, ak_469.2.2.2.1, ak_469.2.2.2.2, [], [], [])
set_option maxRecDepth 1000000 in
theorem ac_469 : af_meth 15 ag_469 ak_469.2.2.1 = true := by decide +kernel
def ag_470 : af_G := ((11, 2, (some .int), mc_271), aw_Sh, [ak_469], 1, ak_470.2.2.2.1, ak_470.2.2.2.2, [], [], [])
set_option maxRecDepth 1000000 in
theorem ac_470 : af_meth 23 ag_470 ak_470.2.2.1 = true := by decide +kernel
def ag_471 : af_G := ((11, 3, (some .boolean), mc_282), aw_Sh, [ak_411], 3, ak_471.2.2.2.1, ak_471.2.2.2.2, [(18, (3, [(0, .inr (.inl 61)), (1, .inl (0, [0])), (2, .inl (0, []))], [], [((61, 0), (0, [])), ((63, 0), (0, [1])), ((63, 4), (0, [2]))], ([(0, 0, 0), (1, 0, 10), (2, 0, 6)], [], [])), [(2, 0, (0, [])), (2147483647, 1, (0, [])), (0, 0, (0, []))]),
  (18, (3, [(0, .inr (.inl 61)), (1, .inl (0, [0])), (2, .inl (1, []))], [], [((61, 0), (0, [])), ((63, 0), (0, [1])), ((63, 4), (0, [2])), ((76, 0), (0, [1]))], ([(0, 0, 0), (1, 0, 10), (2, 0, 6)], [], [])), [(2, 0, (0, [])), (2147483647, 1, (1, [])), (0, 0, (0, []))]),
  (18, (3, [(0, .inr (.inl 61)), (1, .inl (0, [0])), (2, .inl (2, []))], [], [((61, 0), (0, [])), ((63, 0), (0, [1])), ((63, 4), (0, [2])), ((76, 0), (0, [1]))], ([(0, 0, 0), (1, 0, 10), (2, 0, 6)], [], [])), [(2, 0, (0, [])), (2147483647, 1, (2, [])), (0, 0, (0, []))]),
  (18, (3, [(0, .inr (.inl 61)), (1, .inl (0, [0])), (2, .inl (3, []))], [], [((61, 0), (0, [])), ((63, 0), (0, [1])), ((63, 4), (0, [2])), ((76, 0), (0, [1]))], ([(0, 0, 0), (1, 0, 10), (2, 0, 6)], [], [])), [(2, 0, (0, [])), (2147483647, 1, (3, [])), (0, 0, (0, []))]),
  (18, (3, [(0, .inr (.inl 61)), (1, .inl (0, [0])), (2, .inl (4, []))], [], [((61, 0), (0, [])), ((63, 0), (0, [1])), ((63, 4), (0, [2])), ((76, 0), (0, [1]))], ([(0, 0, 0), (1, 0, 10), (2, 0, 6)], [], [])), [(2, 0, (0, [])), (2147483647, 1, (4, [])), (0, 0, (0, []))]),
  (18, (4, [(0, .inr (.inl 61)), (1, .inl (0, [0])), (2, .inl (0, [3]))], [], [((61, 0), (0, [])), ((63, 0), (0, [1])), ((63, 4), (0, [2])), ((76, 0), (0, [1])), ((76, 4), (0, [2]))], ([(3, 5, 411), (0, 0, 0), (1, 0, 10), (2, 0, 6)], [], [])), [(2, 0, (0, [])), (2147483647, 1, (0, [3])), (0, 0, (0, []))]),
  (51, (4, [(0, .inr (.inl 61)), (1, .inl (0, [0])), (2, .inl (0, [3]))], [], [((61, 0), (0, [])), ((63, 0), (0, [1])), ((63, 4), (0, [2])), ((76, 0), (0, [1])), ((76, 4), (0, [2]))], ([(3, 0, 27), (0, 0, 0), (1, 0, 10), (2, 0, 6)], [], [])), [(1, 0, (0, [])), (2147483647, 1, (0, [3])), (0, 0, (0, []))])], [(63, 1, 4), (63, 5, 411), (76, 1, 4), (76, 5, 411), (76, 412, 415), (76, 416, 822)], [])
set_option maxRecDepth 1000000 in
theorem ac_471 : af_meth 23 ag_471 ak_471.2.2.1 = true := by decide +kernel
def ag_472 : af_G := ((11, 3, (some .boolean), mc_282), aw_Sh, [ak_411], 3, ak_472.2.2.2.1, ak_472.2.2.2.2, [(18, (3, [(0, .inr (.inl 61)), (1, .inl (0, [0])), (2, .inl (0, []))], [], [((61, 0), (0, [])), ((63, 0), (0, [1])), ((63, 4), (0, [2]))], ([(0, 1, 1), (1, 0, 10), (2, 0, 6)], [], [])), [(2, 0, (0, [])), (2147483647, 1, (0, [])), (0, 0, (0, []))]),
  (18, (3, [(0, .inr (.inl 61)), (1, .inl (0, [0])), (2, .inl (1, []))], [], [((61, 0), (0, [])), ((63, 0), (0, [1])), ((63, 4), (0, [2])), ((76, 411), (0, [1]))], ([(0, 1, 1), (1, 0, 10), (2, 0, 6)], [], [])), [(2, 0, (0, [])), (2147483647, 1, (1, [])), (0, 0, (0, []))]),
  (18, (3, [(0, .inr (.inl 61)), (1, .inl (0, [0])), (2, .inl (2, []))], [], [((61, 0), (0, [])), ((63, 0), (0, [1])), ((63, 4), (0, [2])), ((76, 411), (0, [1]))], ([(0, 1, 1), (1, 0, 10), (2, 0, 6)], [], [])), [(2, 0, (0, [])), (2147483647, 1, (2, [])), (0, 0, (0, []))]),
  (18, (3, [(0, .inr (.inl 61)), (1, .inl (0, [0])), (2, .inl (3, []))], [], [((61, 0), (0, [])), ((63, 0), (0, [1])), ((63, 4), (0, [2])), ((76, 411), (0, [1]))], ([(0, 1, 1), (1, 0, 10), (2, 0, 6)], [], [])), [(2, 0, (0, [])), (2147483647, 1, (3, [])), (0, 0, (0, []))]),
  (18, (3, [(0, .inr (.inl 61)), (1, .inl (0, [0])), (2, .inl (4, []))], [], [((61, 0), (0, [])), ((63, 0), (0, [1])), ((63, 4), (0, [2])), ((76, 411), (0, [1]))], ([(0, 1, 1), (1, 0, 10), (2, 0, 6)], [], [])), [(2, 0, (0, [])), (2147483647, 1, (4, [])), (0, 0, (0, []))]),
  (18, (4, [(0, .inr (.inl 61)), (1, .inl (0, [0])), (2, .inl (0, [3]))], [], [((61, 0), (0, [])), ((63, 0), (0, [1])), ((63, 4), (0, [2])), ((76, 411), (0, [1])), ((76, 415), (0, [2]))], ([(3, 5, 411), (0, 1, 1), (1, 0, 10), (2, 0, 6)], [], [])), [(2, 0, (0, [])), (2147483647, 1, (0, [3])), (0, 0, (0, []))]),
  (51, (4, [(0, .inr (.inl 61)), (1, .inl (0, [0])), (2, .inl (0, [3]))], [], [((61, 0), (0, [])), ((63, 0), (0, [1])), ((63, 4), (0, [2])), ((76, 411), (0, [1])), ((76, 415), (0, [2]))], ([(3, 0, 27), (0, 1, 1), (1, 0, 10), (2, 0, 6)], [], [])), [(1, 0, (0, [])), (2147483647, 1, (0, [3])), (0, 0, (0, []))])], [(63, 1, 4), (63, 5, 411), (76, 1, 4), (76, 5, 411), (76, 412, 415), (76, 416, 822)], [])
set_option maxRecDepth 1000000 in
theorem ac_472 : af_meth 23 ag_472 ak_472.2.2.1 = true := by decide +kernel
def ag_473 : af_G := ((11, 3, (some .boolean), mc_282), aw_Sh, [ak_411], 3, ak_473.2.2.2.1, ak_473.2.2.2.2, [], [(63, 1, 4), (63, 5, 411), (76, 1, 4), (76, 5, 411), (76, 412, 415), (76, 416, 822)], [])
set_option maxRecDepth 1000000 in
theorem ac_473 : af_meth 16 ag_473 ak_473.2.2.1 = true := by decide +kernel
def ag_474 : af_G := ((11, 3, (some .boolean), mc_282), aw_Sh, [ak_411], 3, ak_474.2.2.2.1, ak_474.2.2.2.2, [], [(63, 1, 4), (63, 5, 411), (76, 1, 4), (76, 5, 411), (76, 412, 415), (76, 416, 822)], [])
set_option maxRecDepth 1000000 in
theorem ac_474 : af_meth 16 ag_474 ak_474.2.2.1 = true := by decide +kernel
def ag_475 : af_G := ((11, 3, (some .boolean), mc_283), aw_Sh, [ak_411], 5, ak_475.2.2.2.1, ak_475.2.2.2.2, [(27, (6, [(0, .inr (.inl 61)), (1, .inl (0, [0])), (2, .inl (0, []))], [], [((61, 0), (0, [])), ((76, 0), (0, [1])), ((76, 4), (0, [2])), ((76, 411), (0, [3])), ((76, 415), (0, [4])), ((78, 0), (0, [5]))], ([(5, 1, 1), (0, 0, 0), (1, 0, 10), (2, 0, 6), (3, 0, 10), (4, 0, 6)], [], [])), [(2, 0, (0, [])), (2147483647, 1, (0, [])), (0, 0, (0, []))]),
  (27, (6, [(0, .inr (.inl 61)), (1, .inl (0, [0])), (2, .inl (1, []))], [], [((61, 0), (0, [])), ((63, 0), (0, [1])), ((76, 0), (0, [1])), ((76, 4), (0, [2])), ((76, 411), (0, [3])), ((76, 415), (0, [4])), ((78, 0), (0, [5]))], ([(5, 1, 1), (0, 0, 0), (1, 0, 10), (2, 0, 6), (3, 0, 10), (4, 0, 6)], [], [])), [(2, 0, (0, [])), (2147483647, 1, (1, [])), (0, 0, (0, []))]),
  (27, (6, [(0, .inr (.inl 61)), (1, .inl (0, [0])), (2, .inl (2, []))], [], [((61, 0), (0, [])), ((63, 0), (0, [1])), ((76, 0), (0, [1])), ((76, 4), (0, [2])), ((76, 411), (0, [3])), ((76, 415), (0, [4])), ((78, 0), (0, [5]))], ([(5, 1, 1), (0, 0, 0), (1, 0, 10), (2, 0, 6), (3, 0, 10), (4, 0, 6)], [], [])), [(2, 0, (0, [])), (2147483647, 1, (2, [])), (0, 0, (0, []))]),
  (27, (6, [(0, .inr (.inl 61)), (1, .inl (0, [0])), (2, .inl (3, []))], [], [((61, 0), (0, [])), ((63, 0), (0, [1])), ((76, 0), (0, [1])), ((76, 4), (0, [2])), ((76, 411), (0, [3])), ((76, 415), (0, [4])), ((78, 0), (0, [5]))], ([(5, 1, 1), (0, 0, 0), (1, 0, 10), (2, 0, 6), (3, 0, 10), (4, 0, 6)], [], [])), [(2, 0, (0, [])), (2147483647, 1, (3, [])), (0, 0, (0, []))]),
  (27, (6, [(0, .inr (.inl 61)), (1, .inl (0, [0])), (2, .inl (4, []))], [], [((61, 0), (0, [])), ((63, 0), (0, [1])), ((76, 0), (0, [1])), ((76, 4), (0, [2])), ((76, 411), (0, [3])), ((76, 415), (0, [4])), ((78, 0), (0, [5]))], ([(5, 1, 1), (0, 0, 0), (1, 0, 10), (2, 0, 6), (3, 0, 10), (4, 0, 6)], [], [])), [(2, 0, (0, [])), (2147483647, 1, (4, [])), (0, 0, (0, []))]),
  (27, (7, [(0, .inr (.inl 61)), (1, .inl (0, [0])), (2, .inl (0, [5]))], [], [((61, 0), (0, [])), ((63, 0), (0, [1])), ((63, 4), (0, [2])), ((76, 0), (0, [1])), ((76, 4), (0, [2])), ((76, 411), (0, [3])), ((76, 415), (0, [4])), ((78, 0), (0, [6]))], ([(5, 5, 411), (6, 1, 1), (0, 0, 0), (1, 0, 10), (2, 0, 6), (3, 0, 10), (4, 0, 6)], [], [])), [(2, 0, (0, [])), (2147483647, 1, (0, [5])), (0, 0, (0, []))]),
  (60, (7, [(0, .inr (.inl 61)), (1, .inl (0, [0])), (2, .inl (0, [5]))], [], [((61, 0), (0, [])), ((63, 0), (0, [1])), ((63, 4), (0, [2])), ((76, 0), (0, [1])), ((76, 4), (0, [2])), ((76, 411), (0, [3])), ((76, 415), (0, [4])), ((78, 0), (0, [6]))], ([(5, 0, 27), (6, 1, 1), (0, 0, 0), (1, 0, 10), (2, 0, 6), (3, 0, 10), (4, 0, 6)], [], [])), [(1, 0, (0, [])), (2147483647, 1, (0, [5])), (0, 0, (0, []))])], [(63, 1, 4), (63, 5, 411), (76, 1, 4), (76, 5, 411), (76, 412, 415), (76, 416, 822)], [])
set_option maxRecDepth 1000000 in
theorem ac_475 : af_meth 23 ag_475 ak_475.2.2.1 = true := by decide +kernel
def ag_476 : af_G := ((11, 3, (some .boolean), mc_283), aw_Sh, [ak_411], 5, ak_476.2.2.2.1, ak_476.2.2.2.2, [(27, (6, [(0, .inr (.inl 61)), (1, .inl (0, [0])), (2, .inl (0, []))], [], [((61, 0), (0, [])), ((76, 0), (0, [1])), ((76, 4), (0, [2])), ((76, 411), (0, [3])), ((76, 415), (0, [4])), ((78, 1), (0, [5]))], ([(5, 1, 1), (0, 1, 1), (1, 0, 10), (2, 0, 6), (3, 0, 10), (4, 0, 6)], [], [])), [(2, 0, (0, [])), (2147483647, 1, (0, [])), (0, 0, (0, []))]),
  (27, (6, [(0, .inr (.inl 61)), (1, .inl (0, [0])), (2, .inl (1, []))], [], [((61, 0), (0, [])), ((63, 0), (0, [3])), ((76, 0), (0, [1])), ((76, 4), (0, [2])), ((76, 411), (0, [3])), ((76, 415), (0, [4])), ((78, 1), (0, [5]))], ([(5, 1, 1), (0, 1, 1), (1, 0, 10), (2, 0, 6), (3, 0, 10), (4, 0, 6)], [], [])), [(2, 0, (0, [])), (2147483647, 1, (1, [])), (0, 0, (0, []))]),
  (27, (6, [(0, .inr (.inl 61)), (1, .inl (0, [0])), (2, .inl (2, []))], [], [((61, 0), (0, [])), ((63, 0), (0, [3])), ((76, 0), (0, [1])), ((76, 4), (0, [2])), ((76, 411), (0, [3])), ((76, 415), (0, [4])), ((78, 1), (0, [5]))], ([(5, 1, 1), (0, 1, 1), (1, 0, 10), (2, 0, 6), (3, 0, 10), (4, 0, 6)], [], [])), [(2, 0, (0, [])), (2147483647, 1, (2, [])), (0, 0, (0, []))]),
  (27, (6, [(0, .inr (.inl 61)), (1, .inl (0, [0])), (2, .inl (3, []))], [], [((61, 0), (0, [])), ((63, 0), (0, [3])), ((76, 0), (0, [1])), ((76, 4), (0, [2])), ((76, 411), (0, [3])), ((76, 415), (0, [4])), ((78, 1), (0, [5]))], ([(5, 1, 1), (0, 1, 1), (1, 0, 10), (2, 0, 6), (3, 0, 10), (4, 0, 6)], [], [])), [(2, 0, (0, [])), (2147483647, 1, (3, [])), (0, 0, (0, []))]),
  (27, (6, [(0, .inr (.inl 61)), (1, .inl (0, [0])), (2, .inl (4, []))], [], [((61, 0), (0, [])), ((63, 0), (0, [3])), ((76, 0), (0, [1])), ((76, 4), (0, [2])), ((76, 411), (0, [3])), ((76, 415), (0, [4])), ((78, 1), (0, [5]))], ([(5, 1, 1), (0, 1, 1), (1, 0, 10), (2, 0, 6), (3, 0, 10), (4, 0, 6)], [], [])), [(2, 0, (0, [])), (2147483647, 1, (4, [])), (0, 0, (0, []))]),
  (27, (7, [(0, .inr (.inl 61)), (1, .inl (0, [0])), (2, .inl (0, [5]))], [], [((61, 0), (0, [])), ((63, 0), (0, [3])), ((63, 4), (0, [4])), ((76, 0), (0, [1])), ((76, 4), (0, [2])), ((76, 411), (0, [3])), ((76, 415), (0, [4])), ((78, 1), (0, [6]))], ([(5, 5, 411), (6, 1, 1), (0, 1, 1), (1, 0, 10), (2, 0, 6), (3, 0, 10), (4, 0, 6)], [], [])), [(2, 0, (0, [])), (2147483647, 1, (0, [5])), (0, 0, (0, []))]),
  (60, (7, [(0, .inr (.inl 61)), (1, .inl (0, [0])), (2, .inl (0, [5]))], [], [((61, 0), (0, [])), ((63, 0), (0, [3])), ((63, 4), (0, [4])), ((76, 0), (0, [1])), ((76, 4), (0, [2])), ((76, 411), (0, [3])), ((76, 415), (0, [4])), ((78, 1), (0, [6]))], ([(5, 0, 27), (6, 1, 1), (0, 1, 1), (1, 0, 10), (2, 0, 6), (3, 0, 10), (4, 0, 6)], [], [])), [(1, 0, (0, [])), (2147483647, 1, (0, [5])), (0, 0, (0, []))])], [(63, 1, 4), (63, 5, 411), (76, 1, 4), (76, 5, 411), (76, 412, 415), (76, 416, 822)], [])
set_option maxRecDepth 1000000 in
theorem ac_476 : af_meth 23 ag_476 ak_476.2.2.1 = true := by decide +kernel
def ag_477 : af_G := ((11, 3, (some .boolean), mc_283), aw_Sh, [ak_411], 5, ak_477.2.2.2.1, ak_477.2.2.2.2, [], [(63, 1, 4), (63, 5, 411), (76, 1, 4), (76, 5, 411), (76, 412, 415), (76, 416, 822)], [])
set_option maxRecDepth 1000000 in
theorem ac_477 : af_meth 16 ag_477 ak_477.2.2.1 = true := by decide +kernel
def ag_478 : af_G := ((11, 3, (some .boolean), mc_283), aw_Sh, [ak_411], 5, ak_478.2.2.2.1, ak_478.2.2.2.2, [], [(63, 1, 4), (63, 5, 411), (76, 1, 4), (76, 5, 411), (76, 412, 415), (76, 416, 822)], [])
set_option maxRecDepth 1000000 in
theorem ac_478 : af_meth 16 ag_478 ak_478.2.2.1 = true := by decide +kernel
def ag_479 : af_G := ((11, 3, (some .boolean), mc_167), aw_Sh, [], 1, ak_479.2.2.2.1, ak_479.2.2.2.2, [], [], [])
set_option maxRecDepth 1000000 in
theorem ac_479 : af_meth 15 ag_479 ak_479.2.2.1 = true := by decide +kernel
