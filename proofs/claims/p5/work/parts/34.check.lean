/-! the checks; by program -/
def ag_338 : af_G := ((10, 2, none, mc_161), aw_Sh, [], 0, ak_338.2.2.2.1, ak_338.2.2.2.2, [], [], [])
set_option maxRecDepth 1000000 in
theorem ac_338 : af_meth 17 ag_338 ak_338.2.2.1 = true := by decide +kernel
theorem aw_338 : af_wfK ak_338.2.1 ak_338.2.2.1 ak_338.2.2.2.2 ag_338.2.2.2.2.2.2.1 = true := by decide +kernel
theorem ah_338 : af_Holds aw_Sh 1 ak_338 := af_soundG (G := ag_338) (K := ak_338) (d := 0) pz_161 rfl rfl rfl rfl aw_338 ac_338 af_HN
def ag_339 : af_G := ((4, 2, none, mc_36), aw_Sh, [ak_338], 0, ak_339.2.2.2.1, ak_339.2.2.2.2, [], [], [])
set_option maxRecDepth 1000000 in
theorem ac_339 : af_meth 12 ag_339 ak_339.2.2.1 = true := by decide +kernel
theorem aw_339 : af_wfK ak_339.2.1 ak_339.2.2.1 ak_339.2.2.2.2 ag_339.2.2.2.2.2.2.1 = true := by decide +kernel
theorem ah_339 : af_Holds aw_Sh 2 ak_339 := af_soundG (G := ag_339) (K := ak_339) (d := 1) pz_36 rfl rfl rfl rfl aw_339 ac_339 (af_HC ah_338 (by decide) af_HN)
def ag_340 : af_G := ((10, 2, none, mc_161), aw_Sh, [], 0, ak_340.2.2.2.1, ak_340.2.2.2.2, [], [], [])
set_option maxRecDepth 1000000 in
theorem ac_340 : af_meth 17 ag_340 ak_340.2.2.1 = true := by decide +kernel
theorem aw_340 : af_wfK ak_340.2.1 ak_340.2.2.1 ak_340.2.2.2.2 ag_340.2.2.2.2.2.2.1 = true := by decide +kernel
theorem ah_340 : af_Holds aw_Sh 1 ak_340 := af_soundG (G := ag_340) (K := ak_340) (d := 0) pz_161 rfl rfl rfl rfl aw_340 ac_340 af_HN
def ag_341 : af_G := ((10, 2, none, mc_161), aw_Sh, [], 0, ak_341.2.2.2.1, ak_341.2.2.2.2, [], [], [])
set_option maxRecDepth 1000000 in
theorem ac_341 : af_meth 17 ag_341 ak_341.2.2.1 = true := by decide +kernel
theorem aw_341 : af_wfK ak_341.2.1 ak_341.2.2.1 ak_341.2.2.2.2 ag_341.2.2.2.2.2.2.1 = true := by decide +kernel
theorem ah_341 : af_Holds aw_Sh 1 ak_341 := af_soundG (G := ag_341) (K := ak_341) (d := 0) pz_161 rfl rfl rfl rfl aw_341 ac_341 af_HN
def ag_342 : af_G := ((10, 2, none, mc_161), aw_Sh, [], 0, ak_342.2.2.2.1, ak_342.2.2.2.2, [], [], [])
set_option maxRecDepth 1000000 in
theorem ac_342 : af_meth 17 ag_342 ak_342.2.2.1 = true := by decide +kernel
theorem aw_342 : af_wfK ak_342.2.1 ak_342.2.2.1 ak_342.2.2.2.2 ag_342.2.2.2.2.2.2.1 = true := by decide +kernel
theorem ah_342 : af_Holds aw_Sh 1 ak_342 := af_soundG (G := ag_342) (K := ak_342) (d := 0) pz_161 rfl rfl rfl rfl aw_342 ac_342 af_HN
def ag_343 : af_G := ((7, 2, none, mc_81), aw_Sh, [ak_340, ak_341, ak_342], 0, ak_343.2.2.2.1, ak_343.2.2.2.2, [], [], [])
set_option maxRecDepth 1000000 in
theorem ac_343 : af_meth 26 ag_343 ak_343.2.2.1 = true := by decide +kernel
theorem aw_343 : af_wfK ak_343.2.1 ak_343.2.2.1 ak_343.2.2.2.2 ag_343.2.2.2.2.2.2.1 = true := by decide +kernel
theorem ah_343 : af_Holds aw_Sh 2 ak_343 := af_soundG (G := ag_343) (K := ak_343) (d := 1) pz_81 rfl rfl rfl rfl aw_343 ac_343 (af_HC ah_340 (by decide) (af_HC ah_341 (by decide) (af_HC ah_342 (by decide) af_HN)))
def ag_344 : af_G := ((1, 4, none, mc_7), aw_Sh, [ak_337, ak_339, ak_343], 0, ak_344.2.2.2.1, ak_344.2.2.2.2, [], [], [])
set_option maxRecDepth 1000000 in
theorem ac_344 : af_meth 22 ag_344 ak_344.2.2.1 = true := by decide +kernel
theorem aw_344 : af_wfK ak_344.2.1 ak_344.2.2.1 ak_344.2.2.2.2 ag_344.2.2.2.2.2.2.1 = true := by decide +kernel
theorem ah_344 : af_Holds aw_Sh 3 ak_344 := af_soundG (G := ag_344) (K := ak_344) (d := 2) pz_7 rfl rfl rfl rfl aw_344 ac_344 (af_HC ah_337 (by decide) (af_HC ah_339 (by decide) (af_HC ah_343 (by decide) af_HN)))
def ag_345 : af_G := ((10, 2, (some .boolean), mc_149), aw_Sh, [ak_335, ak_344, ak_326], 1, ak_345.2.2.2.1, ak_345.2.2.2.2, [], [], [])
set_option maxRecDepth 1000000 in
theorem ac_345 : af_meth 23 ag_345 ak_345.2.2.1 = true := by decide +kernel
theorem aw_345 : af_wfK ak_345.2.1 ak_345.2.2.1 ak_345.2.2.2.2 ag_345.2.2.2.2.2.2.1 = true := by decide +kernel
theorem ah_345 : af_Holds aw_Sh 4 ak_345 := af_soundG (G := ag_345) (K := ak_345) (d := 3) pz_149 rfl rfl rfl rfl aw_345 ac_345 (af_HC ah_335 (by decide) (af_HC ah_344 (by decide) (af_HC ah_326 (by decide) af_HN)))
def ag_346 : af_G := ((10, 2, none, mc_161), aw_Sh, [], 0, ak_346.2.2.2.1, ak_346.2.2.2.2, [], [], [])
set_option maxRecDepth 1000000 in
theorem ac_346 : af_meth 17 ag_346 ak_346.2.2.1 = true := by decide +kernel
theorem aw_346 : af_wfK ak_346.2.1 ak_346.2.2.1 ak_346.2.2.2.2 ag_346.2.2.2.2.2.2.1 = true := by decide +kernel
theorem ah_346 : af_Holds aw_Sh 1 ak_346 := af_soundG (G := ag_346) (K := ak_346) (d := 0) pz_161 rfl rfl rfl rfl aw_346 ac_346 af_HN
def ag_347 : af_G := ((2, 2, none, mc_11), aw_Sh, [ak_346], 0, ak_347.2.2.2.1, ak_347.2.2.2.2, [], [], [])
set_option maxRecDepth 1000000 in
theorem ac_347 : af_meth 26 ag_347 ak_347.2.2.1 = true := by decide +kernel
theorem aw_347 : af_wfK ak_347.2.1 ak_347.2.2.1 ak_347.2.2.2.2 ag_347.2.2.2.2.2.2.1 = true := by decide +kernel
theorem ah_347 : af_Holds aw_Sh 2 ak_347 := af_soundG (G := ag_347) (K := ak_347) (d := 1) pz_11 rfl rfl rfl rfl aw_347 ac_347 (af_HC ah_346 (by decide) af_HN)
def ag_348 : af_G := ((10, 2, none, mc_161), aw_Sh, [], 0, ak_348.2.2.2.1, ak_348.2.2.2.2, [], [], [])
set_option maxRecDepth 1000000 in
theorem ac_348 : af_meth 17 ag_348 ak_348.2.2.1 = true := by decide +kernel
theorem aw_348 : af_wfK ak_348.2.1 ak_348.2.2.1 ak_348.2.2.2.2 ag_348.2.2.2.2.2.2.1 = true := by decide +kernel
theorem ah_348 : af_Holds aw_Sh 1 ak_348 := af_soundG (G := ag_348) (K := ak_348) (d := 0) pz_161 rfl rfl rfl rfl aw_348 ac_348 af_HN
def ag_349 : af_G := ((4, 2, none, mc_36), aw_Sh, [ak_348], 0, ak_349.2.2.2.1, ak_349.2.2.2.2, [], [], [])
set_option maxRecDepth 1000000 in
theorem ac_349 : af_meth 12 ag_349 ak_349.2.2.1 = true := by decide +kernel
theorem aw_349 : af_wfK ak_349.2.1 ak_349.2.2.1 ak_349.2.2.2.2 ag_349.2.2.2.2.2.2.1 = true := by decide +kernel
theorem ah_349 : af_Holds aw_Sh 2 ak_349 := af_soundG (G := ag_349) (K := ak_349) (d := 1) pz_36 rfl rfl rfl rfl aw_349 ac_349 (af_HC ah_348 (by decide) af_HN)
def ag_350 : af_G := ((10, 2, none, mc_161), aw_Sh, [], 0, ak_350.2.2.2.1, ak_350.2.2.2.2, [], [], [])
set_option maxRecDepth 1000000 in
theorem ac_350 : af_meth 17 ag_350 ak_350.2.2.1 = true := by decide +kernel
theorem aw_350 : af_wfK ak_350.2.1 ak_350.2.2.1 ak_350.2.2.2.2 ag_350.2.2.2.2.2.2.1 = true := by decide +kernel
theorem ah_350 : af_Holds aw_Sh 1 ak_350 := af_soundG (G := ag_350) (K := ak_350) (d := 0) pz_161 rfl rfl rfl rfl aw_350 ac_350 af_HN
def ag_351 : af_G := ((10, 2, none, mc_161), aw_Sh, [], 0, ak_351.2.2.2.1, ak_351.2.2.2.2, [], [], [])
set_option maxRecDepth 1000000 in
theorem ac_351 : af_meth 17 ag_351 ak_351.2.2.1 = true := by decide +kernel
theorem aw_351 : af_wfK ak_351.2.1 ak_351.2.2.1 ak_351.2.2.2.2 ag_351.2.2.2.2.2.2.1 = true := by decide +kernel
theorem ah_351 : af_Holds aw_Sh 1 ak_351 := af_soundG (G := ag_351) (K := ak_351) (d := 0) pz_161 rfl rfl rfl rfl aw_351 ac_351 af_HN
def ag_352 : af_G := ((10, 2, none, mc_161), aw_Sh, [], 0, ak_352.2.2.2.1, ak_352.2.2.2.2, [], [], [])
set_option maxRecDepth 1000000 in
theorem ac_352 : af_meth 17 ag_352 ak_352.2.2.1 = true := by decide +kernel
theorem aw_352 : af_wfK ak_352.2.1 ak_352.2.2.1 ak_352.2.2.2.2 ag_352.2.2.2.2.2.2.1 = true := by decide +kernel
theorem ah_352 : af_Holds aw_Sh 1 ak_352 := af_soundG (G := ag_352) (K := ak_352) (d := 0) pz_161 rfl rfl rfl rfl aw_352 ac_352 af_HN
def ag_353 : af_G := ((7, 2, none, mc_81), aw_Sh, [ak_350, ak_351, ak_352], 0, ak_353.2.2.2.1, ak_353.2.2.2.2, [], [], [])
set_option maxRecDepth 1000000 in
theorem ac_353 : af_meth 26 ag_353 ak_353.2.2.1 = true := by decide +kernel
theorem aw_353 : af_wfK ak_353.2.1 ak_353.2.2.1 ak_353.2.2.2.2 ag_353.2.2.2.2.2.2.1 = true := by decide +kernel
theorem ah_353 : af_Holds aw_Sh 2 ak_353 := af_soundG (G := ag_353) (K := ak_353) (d := 1) pz_81 rfl rfl rfl rfl aw_353 ac_353 (af_HC ah_350 (by decide) (af_HC ah_351 (by decide) (af_HC ah_352 (by decide) af_HN)))
def ag_354 : af_G := ((1, 4, none, mc_8), aw_Sh, [ak_347, ak_349, ak_353], 0, ak_354.2.2.2.1, ak_354.2.2.2.2, [], [], [])
set_option maxRecDepth 1000000 in
theorem ac_354 : af_meth 19 ag_354 ak_354.2.2.1 = true := by decide +kernel
theorem aw_354 : af_wfK ak_354.2.1 ak_354.2.2.1 ak_354.2.2.2.2 ag_354.2.2.2.2.2.2.1 = true := by decide +kernel
theorem ah_354 : af_Holds aw_Sh 3 ak_354 := af_soundG (G := ag_354) (K := ak_354) (d := 2) pz_8 rfl rfl rfl rfl aw_354 ac_354 (af_HC ah_347 (by decide) (af_HC ah_349 (by decide) (af_HC ah_353 (by decide) af_HN)))
def ag_355 : af_G := ((10, 2, none, mc_161), aw_Sh, [], 0, ak_355.2.2.2.1, ak_355.2.2.2.2, [], [], [])
set_option maxRecDepth 1000000 in
theorem ac_355 : af_meth 17 ag_355 ak_355.2.2.1 = true := by decide +kernel
theorem aw_355 : af_wfK ak_355.2.1 ak_355.2.2.1 ak_355.2.2.2.2 ag_355.2.2.2.2.2.2.1 = true := by decide +kernel
theorem ah_355 : af_Holds aw_Sh 1 ak_355 := af_soundG (G := ag_355) (K := ak_355) (d := 0) pz_161 rfl rfl rfl rfl aw_355 ac_355 af_HN
def ag_356 : af_G := ((2, 2, none, mc_11), aw_Sh, [ak_355], 0, ak_356.2.2.2.1, ak_356.2.2.2.2, [], [], [])
set_option maxRecDepth 1000000 in
theorem ac_356 : af_meth 26 ag_356 ak_356.2.2.1 = true := by decide +kernel
theorem aw_356 : af_wfK ak_356.2.1 ak_356.2.2.1 ak_356.2.2.2.2 ag_356.2.2.2.2.2.2.1 = true := by decide +kernel
theorem ah_356 : af_Holds aw_Sh 2 ak_356 := af_soundG (G := ag_356) (K := ak_356) (d := 1) pz_11 rfl rfl rfl rfl aw_356 ac_356 (af_HC ah_355 (by decide) af_HN)
def ag_357 : af_G := ((10, 2, none, mc_161), aw_Sh, [], 0, ak_357.2.2.2.1, ak_357.2.2.2.2, [], [], [])
set_option maxRecDepth 1000000 in
theorem ac_357 : af_meth 17 ag_357 ak_357.2.2.1 = true := by decide +kernel
theorem aw_357 : af_wfK ak_357.2.1 ak_357.2.2.1 ak_357.2.2.2.2 ag_357.2.2.2.2.2.2.1 = true := by decide +kernel
theorem ah_357 : af_Holds aw_Sh 1 ak_357 := af_soundG (G := ag_357) (K := ak_357) (d := 0) pz_161 rfl rfl rfl rfl aw_357 ac_357 af_HN
def ag_358 : af_G := ((4, 2, none, mc_36), aw_Sh, [ak_357], 0, ak_358.2.2.2.1, ak_358.2.2.2.2, [], [], [])
set_option maxRecDepth 1000000 in
theorem ac_358 : af_meth 12 ag_358 ak_358.2.2.1 = true := by decide +kernel
theorem aw_358 : af_wfK ak_358.2.1 ak_358.2.2.1 ak_358.2.2.2.2 ag_358.2.2.2.2.2.2.1 = true := by decide +kernel
theorem ah_358 : af_Holds aw_Sh 2 ak_358 := af_soundG (G := ag_358) (K := ak_358) (d := 1) pz_36 rfl rfl rfl rfl aw_358 ac_358 (af_HC ah_357 (by decide) af_HN)
def ag_359 : af_G := ((10, 2, none, mc_161), aw_Sh, [], 0, ak_359.2.2.2.1, ak_359.2.2.2.2, [], [], [])
set_option maxRecDepth 1000000 in
theorem ac_359 : af_meth 17 ag_359 ak_359.2.2.1 = true := by decide +kernel
theorem aw_359 : af_wfK ak_359.2.1 ak_359.2.2.1 ak_359.2.2.2.2 ag_359.2.2.2.2.2.2.1 = true := by decide +kernel
theorem ah_359 : af_Holds aw_Sh 1 ak_359 := af_soundG (G := ag_359) (K := ak_359) (d := 0) pz_161 rfl rfl rfl rfl aw_359 ac_359 af_HN
def ag_360 : af_G := ((10, 2, none, mc_161), aw_Sh, [], 0, ak_360.2.2.2.1, ak_360.2.2.2.2, [], [], [])
set_option maxRecDepth 1000000 in
theorem ac_360 : af_meth 17 ag_360 ak_360.2.2.1 = true := by decide +kernel
theorem aw_360 : af_wfK ak_360.2.1 ak_360.2.2.1 ak_360.2.2.2.2 ag_360.2.2.2.2.2.2.1 = true := by decide +kernel
theorem ah_360 : af_Holds aw_Sh 1 ak_360 := af_soundG (G := ag_360) (K := ak_360) (d := 0) pz_161 rfl rfl rfl rfl aw_360 ac_360 af_HN
def ag_361 : af_G := ((10, 2, none, mc_161), aw_Sh, [], 0, ak_361.2.2.2.1, ak_361.2.2.2.2, [], [], [])
set_option maxRecDepth 1000000 in
theorem ac_361 : af_meth 17 ag_361 ak_361.2.2.1 = true := by decide +kernel
theorem aw_361 : af_wfK ak_361.2.1 ak_361.2.2.1 ak_361.2.2.2.2 ag_361.2.2.2.2.2.2.1 = true := by decide +kernel
theorem ah_361 : af_Holds aw_Sh 1 ak_361 := af_soundG (G := ag_361) (K := ak_361) (d := 0) pz_161 rfl rfl rfl rfl aw_361 ac_361 af_HN
def ag_362 : af_G := ((7, 2, none, mc_81), aw_Sh, [ak_359, ak_360, ak_361], 0, ak_362.2.2.2.1, ak_362.2.2.2.2, [], [], [])
set_option maxRecDepth 1000000 in
theorem ac_362 : af_meth 26 ag_362 ak_362.2.2.1 = true := by decide +kernel
theorem aw_362 : af_wfK ak_362.2.1 ak_362.2.2.1 ak_362.2.2.2.2 ag_362.2.2.2.2.2.2.1 = true := by decide +kernel
theorem ah_362 : af_Holds aw_Sh 2 ak_362 := af_soundG (G := ag_362) (K := ak_362) (d := 1) pz_81 rfl rfl rfl rfl aw_362 ac_362 (af_HC ah_359 (by decide) (af_HC ah_360 (by decide) (af_HC ah_361 (by decide) af_HN)))
def ag_363 : af_G := ((1, 4, none, mc_8), aw_Sh, [ak_356, ak_358, ak_362], 0, ak_363.2.2.2.1, ak_363.2.2.2.2, [], [], [])
set_option maxRecDepth 1000000 in
theorem ac_363 : af_meth 19 ag_363 ak_363.2.2.1 = true := by decide +kernel
theorem aw_363 : af_wfK ak_363.2.1 ak_363.2.2.1 ak_363.2.2.2.2 ag_363.2.2.2.2.2.2.1 = true := by decide +kernel
theorem ah_363 : af_Holds aw_Sh 3 ak_363 := af_soundG (G := ag_363) (K := ak_363) (d := 2) pz_8 rfl rfl rfl rfl aw_363 ac_363 (af_HC ah_356 (by decide) (af_HC ah_358 (by decide) (af_HC ah_362 (by decide) af_HN)))
def ag_364 : af_G := ((10, 2, (some .boolean), mc_150), aw_Sh, [ak_354, ak_363, ak_114, ak_326], 1, ak_364.2.2.2.1, ak_364.2.2.2.2, [], [], [])
set_option maxRecDepth 1000000 in
theorem ac_364 : af_meth 31 ag_364 ak_364.2.2.1 = true := by decide +kernel
theorem aw_364 : af_wfK ak_364.2.1 ak_364.2.2.1 ak_364.2.2.2.2 ag_364.2.2.2.2.2.2.1 = true := by decide +kernel
theorem ah_364 : af_Holds aw_Sh 4 ak_364 := af_soundG (G := ag_364) (K := ak_364) (d := 3) pz_150 rfl rfl rfl rfl aw_364 ac_364 (af_HC ah_354 (by decide) (af_HC ah_363 (by decide) (af_HC ah_114 (by decide) (af_HC ah_326 (by decide) af_HN))))
def ag_365 : af_G := ((10, 2, (some .int), mc_159), aw_Sh, [], 1, ak_365.2.2.2.1, ak_365.2.2.2.2, [], [], [])
set_option maxRecDepth 1000000 in
theorem ac_365 : af_meth 17 ag_365 ak_365.2.2.1 = true := by decide +kernel
theorem aw_365 : af_wfK ak_365.2.1 ak_365.2.2.1 ak_365.2.2.2.2 ag_365.2.2.2.2.2.2.1 = true := by decide +kernel
theorem ah_365 : af_Holds aw_Sh 1 ak_365 := af_soundG (G := ag_365) (K := ak_365) (d := 0) pz_159 rfl rfl rfl rfl aw_365 ac_365 af_HN
def ag_366 : af_G := ((10, 2, (some .int), mc_151), aw_Sh, [ak_365], 1, ak_366.2.2.2.1, ak_366.2.2.2.2, [], [], [])
set_option maxRecDepth 1000000 in
theorem ac_366 : af_meth 19 ag_366 ak_366.2.2.1 = true := by decide +kernel
theorem aw_366 : af_wfK ak_366.2.1 ak_366.2.2.1 ak_366.2.2.2.2 ag_366.2.2.2.2.2.2.1 = true := by decide +kernel
theorem ah_366 : af_Holds aw_Sh 2 ak_366 := af_soundG (G := ag_366) (K := ak_366) (d := 1) pz_151 rfl rfl rfl rfl aw_366 ac_366 (af_HC ah_365 (by decide) af_HN)
def ag_367 : af_G := ((11, 3, none, mc_164), aw_Sh, [], 2, ak_367.2.2.2.1, ak_367.2.2.2.2, [], [], [])
set_option maxRecDepth 1000000 in
theorem ac_367 : af_meth 87 ag_367 ak_367.2.2.1 = true := by decide +kernel
theorem aw_367 : af_wfK ak_367.2.1 ak_367.2.2.1 ak_367.2.2.2.2 ag_367.2.2.2.2.2.2.1 = true := by decide +kernel
theorem ah_367 : af_Holds aw_Sh 1 ak_367 := af_soundG (G := ag_367) (K := ak_367) (d := 0) pz_164 rfl rfl rfl rfl aw_367 ac_367 af_HN
def ag_368 : af_G := ((11, 3, none, mc_164), aw_Sh, [], 2, ak_368.2.2.2.1, ak_368.2.2.2.2, [], [], [])
set_option maxRecDepth 1000000 in
theorem ac_368 : af_meth 87 ag_368 ak_368.2.2.1 = true := by decide +kernel
theorem aw_368 : af_wfK ak_368.2.1 ak_368.2.2.1 ak_368.2.2.2.2 ag_368.2.2.2.2.2.2.1 = true := by decide +kernel
theorem ah_368 : af_Holds aw_Sh 1 ak_368 := af_soundG (G := ag_368) (K := ak_368) (d := 0) pz_164 rfl rfl rfl rfl aw_368 ac_368 af_HN
def ag_369 : af_G := ((11, 3, none, mc_164), aw_Sh, [], 2, ak_369.2.2.2.1, ak_369.2.2.2.2, [], [], [])
set_option maxRecDepth 1000000 in
theorem ac_369 : af_meth 87 ag_369 ak_369.2.2.1 = true := by decide +kernel
theorem aw_369 : af_wfK ak_369.2.1 ak_369.2.2.1 ak_369.2.2.2.2 ag_369.2.2.2.2.2.2.1 = true := by decide +kernel
theorem ah_369 : af_Holds aw_Sh 1 ak_369 := af_soundG (G := ag_369) (K := ak_369) (d := 0) pz_164 rfl rfl rfl rfl aw_369 ac_369 af_HN
def ag_370 : af_G := ((11, 3, none, mc_164), aw_Sh, [], 2, ak_370.2.2.2.1, ak_370.2.2.2.2, [], [], [])
set_option maxRecDepth 1000000 in
theorem ac_370 : af_meth 87 ag_370 ak_370.2.2.1 = true := by decide +kernel
theorem aw_370 : af_wfK ak_370.2.1 ak_370.2.2.1 ak_370.2.2.2.2 ag_370.2.2.2.2.2.2.1 = true := by decide +kernel
theorem ah_370 : af_Holds aw_Sh 1 ak_370 := af_soundG (G := ag_370) (K := ak_370) (d := 0) pz_164 rfl rfl rfl rfl aw_370 ac_370 af_HN
def ag_371 : af_G := ((11, 3, none, mc_164), aw_Sh, [], 2, ak_371.2.2.2.1, ak_371.2.2.2.2, [], [], [])
set_option maxRecDepth 1000000 in
theorem ac_371 : af_meth 87 ag_371 ak_371.2.2.1 = true := by decide +kernel
theorem aw_371 : af_wfK ak_371.2.1 ak_371.2.2.1 ak_371.2.2.2.2 ag_371.2.2.2.2.2.2.1 = true := by decide +kernel
theorem ah_371 : af_Holds aw_Sh 1 ak_371 := af_soundG (G := ag_371) (K := ak_371) (d := 0) pz_164 rfl rfl rfl rfl aw_371 ac_371 af_HN
def ag_372 : af_G := ((11, 6, (some .int), mc_163), aw_Sh, [ak_367, ak_368, ak_369, ak_370, ak_371], 5, ak_372.2.2.2.1, ak_372.2.2.2.2, [], [], [])
set_option maxRecDepth 1000000 in
theorem ac_372 : af_meth 33 ag_372 ak_372.2.2.1 = true := by decide +kernel
theorem aw_372 : af_wfK ak_372.2.1 ak_372.2.2.1 ak_372.2.2.2.2 ag_372.2.2.2.2.2.2.1 = true := by decide +kernel
theorem ah_372 : af_Holds aw_Sh 2 ak_372 := af_soundG (G := ag_372) (K := ak_372) (d := 1) pz_163 rfl rfl rfl rfl aw_372 ac_372 (af_HC ah_367 (by decide) (af_HC ah_368 (by decide) (af_HC ah_369 (by decide) (af_HC ah_370 (by decide) (af_HC ah_371 (by decide) af_HN)))))
def ag_373 : af_G := ((11, 2, (some .boolean), mc_165), aw_Sh, [], 1, ak_373.2.2.2.1, ak_373.2.2.2.2, [], [], [])
set_option maxRecDepth 1000000 in
theorem ac_373 : af_meth 20 ag_373 ak_373.2.2.1 = true := by decide +kernel
theorem aw_373 : af_wfK ak_373.2.1 ak_373.2.2.1 ak_373.2.2.2.2 ag_373.2.2.2.2.2.2.1 = true := by decide +kernel
theorem ah_373 : af_Holds aw_Sh 1 ak_373 := af_soundG (G := ag_373) (K := ak_373) (d := 0) pz_165 rfl rfl rfl rfl aw_373 ac_373 af_HN
def ag_374 : af_G := ((11, 1, (some .int), mc_193), aw_Sh, [], 0, ak_374.2.2.2.1, ak_374.2.2.2.2, [], [], [])
set_option maxRecDepth 1000000 in
theorem ac_374 : af_meth 12 ag_374 ak_374.2.2.1 = true := by decide +kernel
theorem aw_374 : af_wfK ak_374.2.1 ak_374.2.2.1 ak_374.2.2.2.2 ag_374.2.2.2.2.2.2.1 = true := by decide +kernel
theorem ah_374 : af_Holds aw_Sh 1 ak_374 := af_soundG (G := ag_374) (K := ak_374) (d := 0) pz_193 rfl rfl rfl rfl aw_374 ac_374 af_HN
def ag_375 : af_G := ((11, 3, (some .boolean), mc_167), aw_Sh, [], 2, ak_375.2.2.2.1, ak_375.2.2.2.2, [], [], [])
set_option maxRecDepth 1000000 in
theorem ac_375 : af_meth 15 ag_375 ak_375.2.2.1 = true := by decide +kernel
theorem aw_375 : af_wfK ak_375.2.1 ak_375.2.2.1 ak_375.2.2.2.2 ag_375.2.2.2.2.2.2.1 = true := by decide +kernel
theorem ah_375 : af_Holds aw_Sh 1 ak_375 := af_soundG (G := ag_375) (K := ak_375) (d := 0) pz_167 rfl rfl rfl rfl aw_375 ac_375 af_HN
def ag_376 : af_G := ((11, 2, (some .boolean), mc_196), aw_Sh, [ak_375], 2, ak_376.2.2.2.1, ak_376.2.2.2.2, [], [], [])
set_option maxRecDepth 1000000 in
theorem ac_376 : af_meth 16 ag_376 ak_376.2.2.1 = true := by decide +kernel
theorem aw_376 : af_wfK ak_376.2.1 ak_376.2.2.1 ak_376.2.2.2.2 ag_376.2.2.2.2.2.2.1 = true := by decide +kernel
theorem ah_376 : af_Holds aw_Sh 2 ak_376 := af_soundG (G := ag_376) (K := ak_376) (d := 1) pz_196 rfl rfl rfl rfl aw_376 ac_376 (af_HC ah_375 (by decide) af_HN)
def ag_377 : af_G := ((11, 2, (some .boolean), mc_168), aw_Sh, [], 2, ak_377.2.2.2.1, ak_377.2.2.2.2, [], [], [])
set_option maxRecDepth 1000000 in
theorem ac_377 : af_meth 16 ag_377 ak_377.2.2.1 = true := by decide +kernel
theorem aw_377 : af_wfK ak_377.2.1 ak_377.2.2.1 ak_377.2.2.2.2 ag_377.2.2.2.2.2.2.1 = true := by decide +kernel
theorem ah_377 : af_Holds aw_Sh 1 ak_377 := af_soundG (G := ag_377) (K := ak_377) (d := 0) pz_168 rfl rfl rfl rfl aw_377 ac_377 af_HN
def ag_378 : af_G := ((11, 5, (some .int), mc_209), aw_Sh, [ak_377, ak_376], 2, ak_378.2.2.2.1, ak_378.2.2.2.2, [(20, (5, [(0, .inr (.inl 61)), (1, .inl (0, [0])), (2, .inl (0, [1])), (3, .inl (0, [2])), (4, .inl (0, [3]))], [], [((61, 0), (0, [])), ((63, 3), (0, [4]))], ([(2, (-2147483648), 2147483647), (3, 0, 10), (4, 1, 6), (0, 0, 5), (1, (-2147483648), 2147483647)], [], [])), [(1, 0, (0, [])), (2147483647, 1, (0, [3])), (0, 0, (0, []))])], [], [])
set_option maxRecDepth 1000000 in
theorem ac_378 : af_meth 30 ag_378 ak_378.2.2.1 = true := by decide +kernel
theorem aw_378 : af_wfK ak_378.2.1 ak_378.2.2.1 ak_378.2.2.2.2 ag_378.2.2.2.2.2.2.1 = true := by decide +kernel
theorem ah_378 : af_Holds aw_Sh 3 ak_378 := af_soundG (G := ag_378) (K := ak_378) (d := 2) pz_209 rfl rfl rfl rfl aw_378 ac_378 (af_HC ah_377 (by decide) (af_HC ah_376 (by decide) af_HN))
def ag_379 : af_G := ((11, 2, (some .boolean), mc_197), aw_Sh, [ak_375], 2, ak_379.2.2.2.1, ak_379.2.2.2.2, [], [], [])
set_option maxRecDepth 1000000 in
theorem ac_379 : af_meth 16 ag_379 ak_379.2.2.1 = true := by decide +kernel
theorem aw_379 : af_wfK ak_379.2.1 ak_379.2.2.1 ak_379.2.2.2.2 ag_379.2.2.2.2.2.2.1 = true := by decide +kernel
theorem ah_379 : af_Holds aw_Sh 2 ak_379 := af_soundG (G := ag_379) (K := ak_379) (d := 1) pz_197 rfl rfl rfl rfl aw_379 ac_379 (af_HC ah_375 (by decide) af_HN)
def ag_380 : af_G := ((11, 3, (some .boolean), mc_167), aw_Sh, [], 1, ak_380.2.2.2.1, ak_380.2.2.2.2, [], [], [])
set_option maxRecDepth 1000000 in
theorem ac_380 : af_meth 15 ag_380 ak_380.2.2.1 = true := by decide +kernel
theorem aw_380 : af_wfK ak_380.2.1 ak_380.2.2.1 ak_380.2.2.2.2 ag_380.2.2.2.2.2.2.1 = true := by decide +kernel
theorem ah_380 : af_Holds aw_Sh 1 ak_380 := af_soundG (G := ag_380) (K := ak_380) (d := 0) pz_167 rfl rfl rfl rfl aw_380 ac_380 af_HN
def ag_381 : af_G := ((11, 2, (some .boolean), mc_162), aw_Sh, [], 1, ak_381.2.2.2.1, ak_381.2.2.2.2, [], [], [])
set_option maxRecDepth 1000000 in
theorem ac_381 : af_meth 14 ag_381 ak_381.2.2.1 = true := by decide +kernel
theorem aw_381 : af_wfK ak_381.2.1 ak_381.2.2.1 ak_381.2.2.2.2 ag_381.2.2.2.2.2.2.1 = true := by decide +kernel
theorem ah_381 : af_Holds aw_Sh 1 ak_381 := af_soundG (G := ag_381) (K := ak_381) (d := 0) pz_162 rfl rfl rfl rfl aw_381 ac_381 af_HN
def ag_382 : af_G := ((11, 3, (some .int), mc_210), aw_Sh, [ak_381, ak_380, ak_379], 2, ak_382.2.2.2.1, ak_382.2.2.2.2, [], [], [])
set_option maxRecDepth 1000000 in
theorem ac_382 : af_meth 30 ag_382 ak_382.2.2.1 = true := by decide +kernel
theorem aw_382 : af_wfK ak_382.2.1 ak_382.2.2.1 ak_382.2.2.2.2 ag_382.2.2.2.2.2.2.1 = true := by decide +kernel
theorem ah_382 : af_Holds aw_Sh 3 ak_382 := af_soundG (G := ag_382) (K := ak_382) (d := 2) pz_210 rfl rfl rfl rfl aw_382 ac_382 (af_HC ah_381 (by decide) (af_HC ah_380 (by decide) (af_HC ah_379 (by decide) af_HN)))
def ag_383 : af_G := ((11, 3, (some .boolean), mc_167), aw_Sh, [], 2, ak_383.2.2.2.1, ak_383.2.2.2.2, [], [], [])
set_option maxRecDepth 1000000 in
theorem ac_383 : af_meth 15 ag_383 ak_383.2.2.1 = true := by decide +kernel
theorem aw_383 : af_wfK ak_383.2.1 ak_383.2.2.1 ak_383.2.2.2.2 ag_383.2.2.2.2.2.2.1 = true := by decide +kernel
theorem ah_383 : af_Holds aw_Sh 1 ak_383 := af_soundG (G := ag_383) (K := ak_383) (d := 0) pz_167 rfl rfl rfl rfl aw_383 ac_383 af_HN
def ag_384 : af_G := ((11, 2, (some .boolean), mc_194), aw_Sh, [ak_383], 2, ak_384.2.2.2.1, ak_384.2.2.2.2, [], [], [])
set_option maxRecDepth 1000000 in
theorem ac_384 : af_meth 16 ag_384 ak_384.2.2.1 = true := by decide +kernel
theorem aw_384 : af_wfK ak_384.2.1 ak_384.2.2.1 ak_384.2.2.2.2 ag_384.2.2.2.2.2.2.1 = true := by decide +kernel
theorem ah_384 : af_Holds aw_Sh 2 ak_384 := af_soundG (G := ag_384) (K := ak_384) (d := 1) pz_194 rfl rfl rfl rfl aw_384 ac_384 (af_HC ah_383 (by decide) af_HN)
def ag_385 : af_G := ((11, 5, (some .int), mc_211), aw_Sh, [ak_384], 2, ak_385.2.2.2.1, ak_385.2.2.2.2, [(20, (5, [(0, .inr (.inl 61)), (1, .inl (0, [0])), (2, .inl (0, [1])), (3, .inl (0, [2])), (4, .inl (0, [3]))], [], [((61, 0), (0, [])), ((63, 0), (0, [4]))], ([(2, (-2147483648), 2147483647), (3, 0, 6), (4, 1, 10), (0, 0, 9), (1, (-2147483648), 2147483647)], [], [])), [(1, 0, (0, [])), (2147483647, 1, (0, [3])), (0, 0, (0, []))])], [], [])
set_option maxRecDepth 1000000 in
theorem ac_385 : af_meth 29 ag_385 ak_385.2.2.1 = true := by decide +kernel
theorem aw_385 : af_wfK ak_385.2.1 ak_385.2.2.1 ak_385.2.2.2.2 ag_385.2.2.2.2.2.2.1 = true := by decide +kernel
theorem ah_385 : af_Holds aw_Sh 3 ak_385 := af_soundG (G := ag_385) (K := ak_385) (d := 2) pz_211 rfl rfl rfl rfl aw_385 ac_385 (af_HC ah_384 (by decide) af_HN)
def ag_387 : af_G := ((11, 2, (some .int), mc_198), aw_Sh, [], 2, ak_387.2.2.2.1, ak_387.2.2.2.2, [], [], [])
set_option maxRecDepth 1000000 in
theorem ac_387 : af_meth 12 ag_387 ak_387.2.2.1 = true := by decide +kernel
theorem aw_387 : af_wfK ak_387.2.1 ak_387.2.2.1 ak_387.2.2.2.2 ag_387.2.2.2.2.2.2.1 = true := by decide +kernel
theorem ah_387 : af_Holds aw_Sh 1 ak_387 := af_soundG (G := ag_387) (K := ak_387) (d := 0) pz_198 rfl rfl rfl rfl aw_387 ac_387 af_HN
def ag_388 : af_G := ((11, 4, (some .int), mc_202), aw_Sh, [ak_387], 2, ak_388.2.2.2.1, ak_388.2.2.2.2, [], [], [])
set_option maxRecDepth 1000000 in
theorem ac_388 : af_meth 36 ag_388 ak_388.2.2.1 = true := by decide +kernel
theorem aw_388 : af_wfK ak_388.2.1 ak_388.2.2.1 ak_388.2.2.2.2 ag_388.2.2.2.2.2.2.1 = true := by decide +kernel
theorem ah_388 : af_Holds aw_Sh 2 ak_388 := af_soundG (G := ag_388) (K := ak_388) (d := 1) pz_202 rfl rfl rfl rfl aw_388 ac_388 (af_HC ah_387 (by decide) af_HN)
def ag_389 : af_G := ((11, 4, (some .boolean), mc_203), aw_Sh, [ak_388], 2, ak_389.2.2.2.1, ak_389.2.2.2.2, [(2, (3, [(0, .inr (.inl 61)), (1, .inl (0, [0])), (2, .inl (0, [1])), (3, .inl (0, [2]))], [], [], ([(2, 0, 6), (0, 0, 5), (1, 0, 5)], [], [])), [(1, 0, (0, [])), (2147483647, 1, (0, [2])), (0, 0, (0, []))])], [], [])
set_option maxRecDepth 1000000 in
theorem ac_389 : af_meth 30 ag_389 ak_389.2.2.1 = true := by decide +kernel
theorem aw_389 : af_wfK ak_389.2.1 ak_389.2.2.1 ak_389.2.2.2.2 ag_389.2.2.2.2.2.2.1 = true := by decide +kernel
theorem ah_389 : af_Holds aw_Sh 3 ak_389 := af_soundG (G := ag_389) (K := ak_389) (d := 2) pz_203 rfl rfl rfl rfl aw_389 ac_389 (af_HC ah_388 (by decide) af_HN)
def ag_390 : af_G := ((11, 4, (some .boolean), mc_204), aw_Sh, [ak_388, ak_389], 2, ak_390.2.2.2.1, ak_390.2.2.2.2, [], [], [])
set_option maxRecDepth 1000000 in
theorem ac_390 : af_meth 39 ag_390 ak_390.2.2.1 = true := by decide +kernel
theorem aw_390 : af_wfK ak_390.2.1 ak_390.2.2.1 ak_390.2.2.2.2 ag_390.2.2.2.2.2.2.1 = true := by decide +kernel
theorem ah_390 : af_Holds aw_Sh 4 ak_390 := af_soundG (G := ag_390) (K := ak_390) (d := 3) pz_204 rfl rfl rfl rfl aw_390 ac_390 (af_HC ah_388 (by decide) (af_HC ah_389 (by decide) af_HN))
def ag_391 : af_G := ((11, 4, (some .int), mc_205), aw_Sh, [ak_390], 1, ak_391.2.2.2.1, ak_391.2.2.2.2, [(4, (3, [(0, .inr (.inl 61)), (1, .inl (0, [0])), (2, .inl (0, [1])), (3, .inl (0, [2]))], [], [], ([(1, (-2147483648), 2147483647), (2, 0, 6), (0, 0, 5)], [], [])), [(1, 0, (0, [])), (2147483647, 1, (0, [2])), (0, 0, (0, []))])], [], [])
set_option maxRecDepth 1000000 in
theorem ac_391 : af_meth 26 ag_391 ak_391.2.2.1 = true := by decide +kernel
theorem aw_391 : af_wfK ak_391.2.1 ak_391.2.2.1 ak_391.2.2.2.2 ag_391.2.2.2.2.2.2.1 = true := by decide +kernel
theorem ah_391 : af_Holds aw_Sh 5 ak_391 := af_soundG (G := ag_391) (K := ak_391) (d := 4) pz_205 rfl rfl rfl rfl aw_391 ac_391 (af_HC ah_390 (by decide) af_HN)
def ag_392 : af_G := ((11, 3, (some .int), mc_212), aw_Sh, [ak_391], 0, ak_392.2.2.2.1, ak_392.2.2.2.2, [(4, (2, [(0, .inr (.inl 61)), (1, .inl (0, [0])), (2, .inl (0, [1]))], [], [], ([(0, (-2147483648), 2147483647), (1, 0, 6)], [], [])), [(1, 0, (0, [])), (2147483647, 1, (0, [1])), (0, 0, (0, []))])], [], [])
set_option maxRecDepth 1000000 in
theorem ac_392 : af_meth 25 ag_392 ak_392.2.2.1 = true := by decide +kernel
theorem aw_392 : af_wfK ak_392.2.1 ak_392.2.2.1 ak_392.2.2.2.2 ag_392.2.2.2.2.2.2.1 = true := by decide +kernel
theorem ah_392 : af_Holds aw_Sh 6 ak_392 := af_soundG (G := ag_392) (K := ak_392) (d := 5) pz_212 rfl rfl rfl rfl aw_392 ac_392 (af_HC ah_391 (by decide) af_HN)
def ag_393 : af_G := ((11, 4, (some .int), mc_213), aw_Sh, [ak_386, ak_392], 1, ak_393.2.2.2.1, ak_393.2.2.2.2, [(9, (3, [(0, .inr (.inl 61)), (1, .inl (0, [0])), (2, .inl (0, [1])), (3, .inl (0, [2]))], [], [((61, 0), (0, []))], ([(1, (-2147483648), 2147483647), (2, 0, 10), (0, (-2147483648), 2147483647)], [], [])), [(1, 0, (0, [])), (2147483647, 1, (0, [2])), (0, 0, (0, []))])], [], [])
set_option maxRecDepth 1000000 in
theorem ac_393 : af_meth 24 ag_393 ak_393.2.2.1 = true := by decide +kernel
theorem aw_393 : af_wfK ak_393.2.1 ak_393.2.2.1 ak_393.2.2.2.2 ag_393.2.2.2.2.2.2.1 = true := by decide +kernel
theorem ah_393 : af_Holds aw_Sh 7 ak_393 := af_soundG (G := ag_393) (K := ak_393) (d := 6) pz_213 rfl rfl rfl rfl aw_393 ac_393 (af_HC ah_386 (by decide) (af_HC ah_392 (by decide) af_HN))
def ag_394 : af_G := ((11, 3, (some .int), mc_214), aw_Sh, [ak_377], 2, ak_394.2.2.2.1, ak_394.2.2.2.2, [], [], [])
set_option maxRecDepth 1000000 in
theorem ac_394 : af_meth 30 ag_394 ak_394.2.2.1 = true := by decide +kernel
theorem aw_394 : af_wfK ak_394.2.1 ak_394.2.2.1 ak_394.2.2.2.2 ag_394.2.2.2.2.2.2.1 = true := by decide +kernel
theorem ah_394 : af_Holds aw_Sh 2 ak_394 := af_soundG (G := ag_394) (K := ak_394) (d := 1) pz_214 rfl rfl rfl rfl aw_394 ac_394 (af_HC ah_377 (by decide) af_HN)
def ag_395 : af_G := ((11, 2, none, mc_237), aw_Sh, [], 1, ak_395.2.2.2.1, ak_395.2.2.2.2, [(11, (2, [(0, .inr (.inl 61)), (1, .inl (0, [1]))], [], [((61, 22), (0, [0]))], ([(1, 0, 805), (0, 8, 8)], [], [])), [(2, 0, (0, [])), (2147483647, 1, (0, [1])), (0, 0, (0, []))]),
  (47, (3, [(0, .inr (.inl 61)), (1, .inl (0, [1]))], [], [((61, 22), (0, [2]))], ([(1, 0, 115), (2, 7, 7), (0, 7, 8)], [], [])), [(1, 0, (0, [])), (2147483647, 1, (0, [1])), (0, 0, (0, []))]),
  (47, (2, [(0, .inr (.inl 61)), (1, .inl (0, [1]))], [], [((61, 22), (0, [0]))], ([(1, 0, 115), (0, 6, 6)], [], [])), [(1, 0, (0, [])), (2147483647, 1, (0, [1])), (0, 0, (0, []))]),
  (47, (2, [(0, .inr (.inl 61)), (1, .inl (0, [1]))], [], [((61, 22), (0, [0]))], ([(1, 0, 115), (0, 5, 5)], [], [])), [(1, 0, (0, [])), (2147483647, 1, (0, [1])), (0, 0, (0, []))]),
  (47, (2, [(0, .inr (.inl 61)), (1, .inl (0, [1]))], [], [((61, 22), (0, [0]))], ([(1, 0, 115), (0, 4, 4)], [], [])), [(1, 0, (0, [])), (2147483647, 1, (0, [1])), (0, 0, (0, []))]),
  (47, (2, [(0, .inr (.inl 61)), (1, .inl (0, [1]))], [], [((61, 22), (0, [0]))], ([(1, 0, 115), (0, 3, 3)], [], [])), [(1, 0, (0, [])), (2147483647, 1, (0, [1])), (0, 0, (0, []))]),
  (47, (2, [(0, .inr (.inl 61)), (1, .inl (0, [1]))], [], [((61, 22), (0, [0]))], ([(1, 0, 115), (0, 2, 2)], [], [])), [(1, 0, (0, [])), (2147483647, 1, (0, [1])), (0, 0, (0, []))]),
  (47, (2, [(0, .inr (.inl 61)), (1, .inl (0, [1]))], [], [((61, 22), (0, [0]))], ([(1, 0, 115), (0, 1, 1)], [], [])), [(1, 0, (0, [])), (2147483647, 1, (0, [1])), (0, 0, (0, []))]),
  (47, (2, [(0, .inr (.inl 61)), (1, .inl (0, [1]))], [], [((61, 22), (0, [0]))], ([(1, 0, 115), (0, 0, 0)], [], [])), [(1, 0, (0, [])), (2147483647, 1, (0, [1])), (0, 0, (0, []))])], [], [(0, 61, 22)])
set_option maxRecDepth 1000000 in
theorem ac_395 : af_meth 26 ag_395 ak_395.2.2.1 = true := by decide +kernel
theorem aw_395 : af_wfK ak_395.2.1 ak_395.2.2.1 ak_395.2.2.2.2 ag_395.2.2.2.2.2.2.1 = true := by decide +kernel
theorem ah_395 : af_Holds aw_Sh 1 ak_395 := af_soundG (G := ag_395) (K := ak_395) (d := 0) pz_237 rfl rfl rfl rfl aw_395 ac_395 af_HN
def ag_396 : af_G := ((11, 2, (some .int), mc_169), aw_Sh, [], 2, ak_396.2.2.2.1, ak_396.2.2.2.2, [], [], [])
set_option maxRecDepth 1000000 in
theorem ac_396 : af_meth 12 ag_396 ak_396.2.2.1 = true := by decide +kernel
theorem aw_396 : af_wfK ak_396.2.1 ak_396.2.2.1 ak_396.2.2.2.2 ag_396.2.2.2.2.2.2.1 = true := by decide +kernel
theorem ah_396 : af_Holds aw_Sh 1 ak_396 := af_soundG (G := ag_396) (K := ak_396) (d := 0) pz_169 rfl rfl rfl rfl aw_396 ac_396 af_HN
def ag_397 : af_G := ((11, 4, none, mc_199), aw_Sh, [ak_387], 3, ak_397.2.2.2.1, ak_397.2.2.2.2, [], [], [])
set_option maxRecDepth 1000000 in
theorem ac_397 : af_meth 28 ag_397 ak_397.2.2.1 = true := by decide +kernel
theorem aw_397 : af_wfK ak_397.2.1 ak_397.2.2.1 ak_397.2.2.2.2 ag_397.2.2.2.2.2.2.1 = true := by decide +kernel
theorem ah_397 : af_Holds aw_Sh 2 ak_397 := af_soundG (G := ag_397) (K := ak_397) (d := 1) pz_199 rfl rfl rfl rfl aw_397 ac_397 (af_HC ah_387 (by decide) af_HN)
def ag_398 : af_G := ((11, 2, (some .int), mc_170), aw_Sh, [], 2, ak_398.2.2.2.1, ak_398.2.2.2.2, [], [], [])
set_option maxRecDepth 1000000 in
theorem ac_398 : af_meth 12 ag_398 ak_398.2.2.1 = true := by decide +kernel
theorem aw_398 : af_wfK ak_398.2.1 ak_398.2.2.1 ak_398.2.2.2.2 ag_398.2.2.2.2.2.2.1 = true := by decide +kernel
theorem ah_398 : af_Holds aw_Sh 1 ak_398 := af_soundG (G := ag_398) (K := ak_398) (d := 0) pz_170 rfl rfl rfl rfl aw_398 ac_398 af_HN
def ag_399 : af_G := ((11, 5, none, mc_200), aw_Sh, [ak_377, ak_396, ak_398, ak_387, ak_397], 2, ak_399.2.2.2.1, ak_399.2.2.2.2, [], [], [])
set_option maxRecDepth 1000000 in
theorem ac_399 : af_meth 67 ag_399 ak_399.2.2.1 = true := by decide +kernel
theorem aw_399 : af_wfK ak_399.2.1 ak_399.2.2.1 ak_399.2.2.2.2 ag_399.2.2.2.2.2.2.1 = true := by decide +kernel
theorem ah_399 : af_Holds aw_Sh 3 ak_399 := af_soundG (G := ag_399) (K := ak_399) (d := 2) pz_200 rfl rfl rfl rfl aw_399 ac_399 (af_HC ah_377 (by decide) (af_HC ah_396 (by decide) (af_HC ah_398 (by decide) (af_HC ah_387 (by decide) (af_HC ah_397 (by decide) af_HN)))))
def ag_400 : af_G := ((11, 3, none, mc_201), aw_Sh, [ak_377, ak_399], 1, ak_400.2.2.2.1, ak_400.2.2.2.2, [(2, (2, [(0, .inr (.inl 61)), (1, .inl (0, [0])), (2, .inl (0, [1]))], [], [], ([(1, 0, 6), (0, 0, 5)], [], [])), [(1, 0, (0, [])), (2147483647, 1, (0, [1])), (0, 0, (0, []))])], [], [])
set_option maxRecDepth 1000000 in
theorem ac_400 : af_meth 32 ag_400 ak_400.2.2.1 = true := by decide +kernel
theorem aw_400 : af_wfK ak_400.2.1 ak_400.2.2.1 ak_400.2.2.2.2 ag_400.2.2.2.2.2.2.1 = true := by decide +kernel
theorem ah_400 : af_Holds aw_Sh 4 ak_400 := af_soundG (G := ag_400) (K := ak_400) (d := 3) pz_201 rfl rfl rfl rfl aw_400 ac_400 (af_HC ah_377 (by decide) (af_HC ah_399 (by decide) af_HN))
def ag_401 : af_G := ((11, 3, none, mc_215), aw_Sh, [ak_400], 2, ak_401.2.2.2.1, ak_401.2.2.2.2, [], [], [])
set_option maxRecDepth 1000000 in
theorem ac_401 : af_meth 17 ag_401 ak_401.2.2.1 = true := by decide +kernel
theorem aw_401 : af_wfK ak_401.2.1 ak_401.2.2.1 ak_401.2.2.2.2 ag_401.2.2.2.2.2.2.1 = true := by decide +kernel
theorem ah_401 : af_Holds aw_Sh 5 ak_401 := af_soundG (G := ag_401) (K := ak_401) (d := 4) pz_215 rfl rfl rfl rfl aw_401 ac_401 (af_HC ah_400 (by decide) af_HN)
def ag_402 : af_G := ((11, 3, none, mc_216), aw_Sh, [ak_401], 2, ak_402.2.2.2.1, ak_402.2.2.2.2, [], [], [])
set_option maxRecDepth 1000000 in
theorem ac_402 : af_meth 21 ag_402 ak_402.2.2.1 = true := by decide +kernel
theorem aw_402 : af_wfK ak_402.2.1 ak_402.2.2.1 ak_402.2.2.2.2 ag_402.2.2.2.2.2.2.1 = true := by decide +kernel
theorem ah_402 : af_Holds aw_Sh 6 ak_402 := af_soundG (G := ag_402) (K := ak_402) (d := 5) pz_216 rfl rfl rfl rfl aw_402 ac_402 (af_HC ah_401 (by decide) af_HN)
def ag_403 : af_G := ((11, 4, (some .int), mc_230), aw_Sh, [ak_384, ak_379, ak_394, ak_402, ak_395], 2, ak_403.2.2.2.1, ak_403.2.2.2.2, [], [], [])
set_option maxRecDepth 1000000 in
theorem ac_403 : af_meth 32 ag_403 ak_403.2.2.1 = true := by decide +kernel
theorem aw_403 : af_wfK ak_403.2.1 ak_403.2.2.1 ak_403.2.2.2.2 ag_403.2.2.2.2.2.2.1 = true := by decide +kernel
theorem ah_403 : af_Holds aw_Sh 7 ak_403 := af_soundG (G := ag_403) (K := ak_403) (d := 6) pz_230 rfl rfl rfl rfl aw_403 ac_403 (af_HC ah_384 (by decide) (af_HC ah_379 (by decide) (af_HC ah_394 (by decide) (af_HC ah_402 (by decide) (af_HC ah_395 (by decide) af_HN)))))
def ag_404 : af_G := ((11, 3, (some .boolean), mc_167), aw_Sh, [], 2, ak_404.2.2.2.1, ak_404.2.2.2.2, [], [], [])
set_option maxRecDepth 1000000 in
theorem ac_404 : af_meth 15 ag_404 ak_404.2.2.1 = true := by decide +kernel
theorem aw_404 : af_wfK ak_404.2.1 ak_404.2.2.1 ak_404.2.2.2.2 ag_404.2.2.2.2.2.2.1 = true := by decide +kernel
theorem ah_404 : af_Holds aw_Sh 1 ak_404 := af_soundG (G := ag_404) (K := ak_404) (d := 0) pz_167 rfl rfl rfl rfl aw_404 ac_404 af_HN
def ag_405 : af_G := ((11, 2, (some .boolean), mc_195), aw_Sh, [ak_404], 2, ak_405.2.2.2.1, ak_405.2.2.2.2, [], [], [])
set_option maxRecDepth 1000000 in
theorem ac_405 : af_meth 16 ag_405 ak_405.2.2.1 = true := by decide +kernel
theorem aw_405 : af_wfK ak_405.2.1 ak_405.2.2.1 ak_405.2.2.2.2 ag_405.2.2.2.2.2.2.1 = true := by decide +kernel
theorem ah_405 : af_Holds aw_Sh 2 ak_405 := af_soundG (G := ag_405) (K := ak_405) (d := 1) pz_195 rfl rfl rfl rfl aw_405 ac_405 (af_HC ah_404 (by decide) af_HN)
def ag_406 : af_G := ((11, 4, (some .int), mc_206), aw_Sh, [ak_377], 1, ak_406.2.2.2.1, ak_406.2.2.2.2, [(4, (3, [(0, .inr (.inl 61)), (1, .inl (0, [0])), (2, .inl (0, [1])), (3, .inl (0, [2]))], [], [], ([(1, (-2147483648), 2147483647), (2, 0, 6), (0, (-2147483648), 2147483647)], [], [])), [(1, 0, (0, [])), (2147483647, 1, (0, [2])), (0, 0, (0, []))])], [], [])
set_option maxRecDepth 1000000 in
theorem ac_406 : af_meth 28 ag_406 ak_406.2.2.1 = true := by decide +kernel
theorem aw_406 : af_wfK ak_406.2.1 ak_406.2.2.1 ak_406.2.2.2.2 ag_406.2.2.2.2.2.2.1 = true := by decide +kernel
theorem ah_406 : af_Holds aw_Sh 2 ak_406 := af_soundG (G := ag_406) (K := ak_406) (d := 1) pz_206 rfl rfl rfl rfl aw_406 ac_406 (af_HC ah_377 (by decide) af_HN)
def ag_407 : af_G := ((11, 2, (some .int), mc_207), aw_Sh, [ak_391, ak_406], 1, ak_407.2.2.2.1, ak_407.2.2.2.2, [], [], [])
set_option maxRecDepth 1000000 in
theorem ac_407 : af_meth 12 ag_407 ak_407.2.2.1 = true := by decide +kernel
theorem aw_407 : af_wfK ak_407.2.1 ak_407.2.2.1 ak_407.2.2.2.2 ag_407.2.2.2.2.2.2.1 = true := by decide +kernel
theorem ah_407 : af_Holds aw_Sh 6 ak_407 := af_soundG (G := ag_407) (K := ak_407) (d := 5) pz_207 rfl rfl rfl rfl aw_407 ac_407 (af_HC ah_391 (by decide) (af_HC ah_406 (by decide) af_HN))
def ag_408 : af_G := ((11, 3, (some .int), mc_217), aw_Sh, [ak_377, ak_407], 2, ak_408.2.2.2.1, ak_408.2.2.2.2, [], [], [])
set_option maxRecDepth 1000000 in
theorem ac_408 : af_meth 15 ag_408 ak_408.2.2.1 = true := by decide +kernel
theorem aw_408 : af_wfK ak_408.2.1 ak_408.2.2.1 ak_408.2.2.2.2 ag_408.2.2.2.2.2.2.1 = true := by decide +kernel
theorem ah_408 : af_Holds aw_Sh 7 ak_408 := af_soundG (G := ag_408) (K := ak_408) (d := 6) pz_217 rfl rfl rfl rfl aw_408 ac_408 (af_HC ah_377 (by decide) (af_HC ah_407 (by decide) af_HN))
def ag_409 : af_G := ((11, 2, none, mc_218), aw_Sh, [], 1, ak_409.2.2.2.1, ak_409.2.2.2.2, [], [], [])
set_option maxRecDepth 1000000 in
theorem ac_409 : af_meth 25 ag_409 ak_409.2.2.1 = true := by decide +kernel
theorem aw_409 : af_wfK ak_409.2.1 ak_409.2.2.1 ak_409.2.2.2.2 ag_409.2.2.2.2.2.2.1 = true := by decide +kernel
theorem ah_409 : af_Holds aw_Sh 1 ak_409 := af_soundG (G := ag_409) (K := ak_409) (d := 0) pz_218 rfl rfl rfl rfl aw_409 ac_409 af_HN
def ag_410 : af_G := ((11, 3, (some .int), mc_231), aw_Sh, [ak_405, ak_379, ak_408, ak_409, ak_395], 2, ak_410.2.2.2.1, ak_410.2.2.2.2, [], [], [])
set_option maxRecDepth 1000000 in
theorem ac_410 : af_meth 29 ag_410 ak_410.2.2.1 = true := by decide +kernel
theorem aw_410 : af_wfK ak_410.2.1 ak_410.2.2.1 ak_410.2.2.2.2 ag_410.2.2.2.2.2.2.1 = true := by decide +kernel
theorem ah_410 : af_Holds aw_Sh 8 ak_410 := af_soundG (G := ag_410) (K := ak_410) (d := 7) pz_231 rfl rfl rfl rfl aw_410 ac_410 (af_HC ah_405 (by decide) (af_HC ah_379 (by decide) (af_HC ah_408 (by decide) (af_HC ah_409 (by decide) (af_HC ah_395 (by decide) af_HN)))))
def ag_411 : af_G := ((11, 3, (some .boolean), mc_167), aw_Sh, [], 1, ak_411.2.2.2.1, ak_411.2.2.2.2, [], [], [])
set_option maxRecDepth 1000000 in
theorem ac_411 : af_meth 15 ag_411 ak_411.2.2.1 = true := by decide +kernel
theorem aw_411 : af_wfK ak_411.2.1 ak_411.2.2.1 ak_411.2.2.2.2 ag_411.2.2.2.2.2.2.1 = true := by decide +kernel
theorem ah_411 : af_Holds aw_Sh 1 ak_411 := af_soundG (G := ag_411) (K := ak_411) (d := 0) pz_167 rfl rfl rfl rfl aw_411 ac_411 af_HN
def ag_412 : af_G := ((11, 3, (some .int), mc_219), aw_Sh, [ak_377], 2, ak_412.2.2.2.1, ak_412.2.2.2.2, [], [], [])
set_option maxRecDepth 1000000 in
theorem ac_412 : af_meth 21 ag_412 ak_412.2.2.1 = true := by decide +kernel
theorem aw_412 : af_wfK ak_412.2.1 ak_412.2.2.1 ak_412.2.2.2.2 ag_412.2.2.2.2.2.2.1 = true := by decide +kernel
theorem ah_412 : af_Holds aw_Sh 2 ak_412 := af_soundG (G := ag_412) (K := ak_412) (d := 1) pz_219 rfl rfl rfl rfl aw_412 ac_412 (af_HC ah_377 (by decide) af_HN)
def ag_413 : af_G := ((11, 3, none, mc_220), aw_Sh, [ak_400], 2, ak_413.2.2.2.1, ak_413.2.2.2.2, [], [], [])
set_option maxRecDepth 1000000 in
theorem ac_413 : af_meth 22 ag_413 ak_413.2.2.1 = true := by decide +kernel
theorem aw_413 : af_wfK ak_413.2.1 ak_413.2.2.1 ak_413.2.2.2.2 ag_413.2.2.2.2.2.2.1 = true := by decide +kernel
theorem ah_413 : af_Holds aw_Sh 5 ak_413 := af_soundG (G := ag_413) (K := ak_413) (d := 4) pz_220 rfl rfl rfl rfl aw_413 ac_413 (af_HC ah_400 (by decide) af_HN)
def ag_414 : af_G := ((11, 3, (some .int), mc_232), aw_Sh, [ak_411, ak_379, ak_412, ak_413, ak_395], 2, ak_414.2.2.2.1, ak_414.2.2.2.2, [], [], [])
set_option maxRecDepth 1000000 in
theorem ac_414 : af_meth 31 ag_414 ak_414.2.2.1 = true := by decide +kernel
theorem aw_414 : af_wfK ak_414.2.1 ak_414.2.2.1 ak_414.2.2.2.2 ag_414.2.2.2.2.2.2.1 = true := by decide +kernel
theorem ah_414 : af_Holds aw_Sh 6 ak_414 := af_soundG (G := ag_414) (K := ak_414) (d := 5) pz_232 rfl rfl rfl rfl aw_414 ac_414 (af_HC ah_411 (by decide) (af_HC ah_379 (by decide) (af_HC ah_412 (by decide) (af_HC ah_413 (by decide) (af_HC ah_395 (by decide) af_HN)))))
def ag_415 : af_G := ((11, 4, (some .int), mc_208), aw_Sh, [ak_387], 1, ak_415.2.2.2.1, ak_415.2.2.2.2, [(4, (3, [(0, .inr (.inl 61)), (1, .inl (0, [0])), (2, .inl (0, [1])), (3, .inl (0, [2]))], [], [], ([(1, (-2147483648), 2147483647), (2, 0, 6), (0, 0, 5)], [], [])), [(1, 0, (0, [])), (2147483647, 1, (0, [2])), (0, 0, (0, []))])], [], [])
set_option maxRecDepth 1000000 in
theorem ac_415 : af_meth 25 ag_415 ak_415.2.2.1 = true := by decide +kernel
theorem aw_415 : af_wfK ak_415.2.1 ak_415.2.2.1 ak_415.2.2.2.2 ag_415.2.2.2.2.2.2.1 = true := by decide +kernel
theorem ah_415 : af_Holds aw_Sh 2 ak_415 := af_soundG (G := ag_415) (K := ak_415) (d := 1) pz_208 rfl rfl rfl rfl aw_415 ac_415 (af_HC ah_387 (by decide) af_HN)
def ag_416 : af_G := ((11, 2, (some .int), mc_221), aw_Sh, [ak_415], 1, ak_416.2.2.2.1, ak_416.2.2.2.2, [], [], [])
set_option maxRecDepth 1000000 in
theorem ac_416 : af_meth 13 ag_416 ak_416.2.2.1 = true := by decide +kernel
theorem aw_416 : af_wfK ak_416.2.1 ak_416.2.2.1 ak_416.2.2.2.2 ag_416.2.2.2.2.2.2.1 = true := by decide +kernel
theorem ah_416 : af_Holds aw_Sh 3 ak_416 := af_soundG (G := ag_416) (K := ak_416) (d := 2) pz_221 rfl rfl rfl rfl aw_416 ac_416 (af_HC ah_415 (by decide) af_HN)
def ag_417 : af_G := ((11, 3, none, mc_222), aw_Sh, [ak_387], 1, ak_417.2.2.2.1, ak_417.2.2.2.2, [(2, (2, [(0, .inr (.inl 61)), (1, .inl (0, [0])), (2, .inl (0, [1]))], [], [], ([(1, 0, 6), (0, 0, 5)], [], [])), [(1, 0, (0, [])), (2147483647, 1, (0, [1])), (0, 0, (0, []))])], [], [])
set_option maxRecDepth 1000000 in
theorem ac_417 : af_meth 23 ag_417 ak_417.2.2.1 = true := by decide +kernel
theorem aw_417 : af_wfK ak_417.2.1 ak_417.2.2.1 ak_417.2.2.2.2 ag_417.2.2.2.2.2.2.1 = true := by decide +kernel
theorem ah_417 : af_Holds aw_Sh 2 ak_417 := af_soundG (G := ag_417) (K := ak_417) (d := 1) pz_222 rfl rfl rfl rfl aw_417 ac_417 (af_HC ah_387 (by decide) af_HN)
def ag_418 : af_G := ((11, 2, (some .int), mc_233), aw_Sh, [ak_379, ak_416, ak_417, ak_395], 1, ak_418.2.2.2.1, ak_418.2.2.2.2, [], [], [])
set_option maxRecDepth 1000000 in
theorem ac_418 : af_meth 24 ag_418 ak_418.2.2.1 = true := by decide +kernel
theorem aw_418 : af_wfK ak_418.2.1 ak_418.2.2.1 ak_418.2.2.2.2 ag_418.2.2.2.2.2.2.1 = true := by decide +kernel
theorem ah_418 : af_Holds aw_Sh 4 ak_418 := af_soundG (G := ag_418) (K := ak_418) (d := 3) pz_233 rfl rfl rfl rfl aw_418 ac_418 (af_HC ah_379 (by decide) (af_HC ah_416 (by decide) (af_HC ah_417 (by decide) (af_HC ah_395 (by decide) af_HN))))
def ag_419 : af_G := ((11, 3, (some .int), mc_223), aw_Sh, [ak_377], 2, ak_419.2.2.2.1, ak_419.2.2.2.2, [], [], [])
set_option maxRecDepth 1000000 in
theorem ac_419 : af_meth 18 ag_419 ak_419.2.2.1 = true := by decide +kernel
theorem aw_419 : af_wfK ak_419.2.1 ak_419.2.2.1 ak_419.2.2.2.2 ag_419.2.2.2.2.2.2.1 = true := by decide +kernel
theorem ah_419 : af_Holds aw_Sh 2 ak_419 := af_soundG (G := ag_419) (K := ak_419) (d := 1) pz_223 rfl rfl rfl rfl aw_419 ac_419 (af_HC ah_377 (by decide) af_HN)
def ag_420 : af_G := ((11, 4, none, mc_224), aw_Sh, [ak_399], 2, ak_420.2.2.2.1, ak_420.2.2.2.2, [(18, (3, [(0, .inr (.inl 61)), (1, .inl (0, [0])), (2, .inl (0, [1])), (3, .inl (0, [2]))], [], [], ([(2, 0, 6), (0, 0, 5), (1, 0, 9)], [], [])), [(1, 0, (0, [])), (2147483647, 1, (0, [2])), (0, 0, (0, []))])], [], [])
set_option maxRecDepth 1000000 in
theorem ac_420 : af_meth 26 ag_420 ak_420.2.2.1 = true := by decide +kernel
theorem aw_420 : af_wfK ak_420.2.1 ak_420.2.2.1 ak_420.2.2.2.2 ag_420.2.2.2.2.2.2.1 = true := by decide +kernel
theorem ah_420 : af_Holds aw_Sh 4 ak_420 := af_soundG (G := ag_420) (K := ak_420) (d := 3) pz_224 rfl rfl rfl rfl aw_420 ac_420 (af_HC ah_399 (by decide) af_HN)
def ag_421 : af_G := ((11, 3, (some .int), mc_234), aw_Sh, [ak_384, ak_376, ak_419, ak_420, ak_395], 2, ak_421.2.2.2.1, ak_421.2.2.2.2, [], [], [])
set_option maxRecDepth 1000000 in
theorem ac_421 : af_meth 30 ag_421 ak_421.2.2.1 = true := by decide +kernel
theorem aw_421 : af_wfK ak_421.2.1 ak_421.2.2.1 ak_421.2.2.2.2 ag_421.2.2.2.2.2.2.1 = true := by decide +kernel
theorem ah_421 : af_Holds aw_Sh 5 ak_421 := af_soundG (G := ag_421) (K := ak_421) (d := 4) pz_234 rfl rfl rfl rfl aw_421 ac_421 (af_HC ah_384 (by decide) (af_HC ah_376 (by decide) (af_HC ah_419 (by decide) (af_HC ah_420 (by decide) (af_HC ah_395 (by decide) af_HN)))))
def ag_422 : af_G := ((11, 2, (some .int), mc_225), aw_Sh, [], 1, ak_422.2.2.2.1, ak_422.2.2.2.2, [], [], [])
set_option maxRecDepth 1000000 in
theorem ac_422 : af_meth 16 ag_422 ak_422.2.2.1 = true := by decide +kernel
theorem aw_422 : af_wfK ak_422.2.1 ak_422.2.2.1 ak_422.2.2.2.2 ag_422.2.2.2.2.2.2.1 = true := by decide +kernel
theorem ah_422 : af_Holds aw_Sh 1 ak_422 := af_soundG (G := ag_422) (K := ak_422) (d := 0) pz_225 rfl rfl rfl rfl aw_422 ac_422 af_HN
def ag_423 : af_G := ((11, 2, none, mc_226), aw_Sh, [], 1, ak_423.2.2.2.1, ak_423.2.2.2.2, [], [], [])
set_option maxRecDepth 1000000 in
theorem ac_423 : af_meth 22 ag_423 ak_423.2.2.1 = true := by decide +kernel
theorem aw_423 : af_wfK ak_423.2.1 ak_423.2.2.1 ak_423.2.2.2.2 ag_423.2.2.2.2.2.2.1 = true := by decide +kernel
theorem ah_423 : af_Holds aw_Sh 1 ak_423 := af_soundG (G := ag_423) (K := ak_423) (d := 0) pz_226 rfl rfl rfl rfl aw_423 ac_423 af_HN
def ag_424 : af_G := ((11, 2, (some .int), mc_235), aw_Sh, [ak_384, ak_422, ak_423, ak_395], 1, ak_424.2.2.2.1, ak_424.2.2.2.2, [], [], [])
set_option maxRecDepth 1000000 in
theorem ac_424 : af_meth 24 ag_424 ak_424.2.2.1 = true := by decide +kernel
theorem aw_424 : af_wfK ak_424.2.1 ak_424.2.2.1 ak_424.2.2.2.2 ag_424.2.2.2.2.2.2.1 = true := by decide +kernel
theorem ah_424 : af_Holds aw_Sh 3 ak_424 := af_soundG (G := ag_424) (K := ak_424) (d := 2) pz_235 rfl rfl rfl rfl aw_424 ac_424 (af_HC ah_384 (by decide) (af_HC ah_422 (by decide) (af_HC ah_423 (by decide) (af_HC ah_395 (by decide) af_HN))))
def ag_425 : af_G := ((11, 3, (some .boolean), mc_167), aw_Sh, [], 1, ak_425.2.2.2.1, ak_425.2.2.2.2, [], [], [])
set_option maxRecDepth 1000000 in
theorem ac_425 : af_meth 15 ag_425 ak_425.2.2.1 = true := by decide +kernel
theorem aw_425 : af_wfK ak_425.2.1 ak_425.2.2.1 ak_425.2.2.2.2 ag_425.2.2.2.2.2.2.1 = true := by decide +kernel
theorem ah_425 : af_Holds aw_Sh 1 ak_425 := af_soundG (G := ag_425) (K := ak_425) (d := 0) pz_167 rfl rfl rfl rfl aw_425 ac_425 af_HN
def ag_426 : af_G := ((11, 4, none, mc_227), aw_Sh, [ak_377, ak_401], 1, ak_426.2.2.2.1, ak_426.2.2.2.2, [], [], [])
set_option maxRecDepth 1000000 in
theorem ac_426 : af_meth 76 ag_426 ak_426.2.2.1 = true := by decide +kernel
theorem aw_426 : af_wfK ak_426.2.1 ak_426.2.2.1 ak_426.2.2.2.2 ag_426.2.2.2.2.2.2.1 = true := by decide +kernel
theorem ah_426 : af_Holds aw_Sh 6 ak_426 := af_soundG (G := ag_426) (K := ak_426) (d := 5) pz_227 rfl rfl rfl rfl aw_426 ac_426 (af_HC ah_377 (by decide) (af_HC ah_401 (by decide) af_HN))
def ag_427 : af_G := ((11, 2, none, mc_228), aw_Sh, [ak_426], 0, ak_427.2.2.2.1, ak_427.2.2.2.2, [(2, (1, [(0, .inr (.inl 61)), (1, .inl (0, [0]))], [], [], ([(0, 0, 36)], [], [])), [(2, 0, (0, [])), (2147483647, 1, (0, [0])), (0, 0, (0, []))]),
  (69, (1, [(0, .inr (.inl 61)), (1, .inl (0, [0]))], [], [((63, 118), (0, []))], ([(0, 0, 6)], [], [])), [(1, 0, (0, [])), (2147483647, 1, (0, [0])), (0, 0, (0, []))])], [], [])
set_option maxRecDepth 1000000 in
theorem ac_427 : af_meth 31 ag_427 ak_427.2.2.1 = true := by decide +kernel
theorem aw_427 : af_wfK ak_427.2.1 ak_427.2.2.1 ak_427.2.2.2.2 ag_427.2.2.2.2.2.2.1 = true := by decide +kernel
theorem ah_427 : af_Holds aw_Sh 7 ak_427 := af_soundG (G := ag_427) (K := ak_427) (d := 6) pz_228 rfl rfl rfl rfl aw_427 ac_427 (af_HC ah_426 (by decide) af_HN)
def ag_428 : af_G := ((11, 3, (some .int), mc_229), aw_Sh, [ak_427], 1, ak_428.2.2.2.1, ak_428.2.2.2.2, [(2, (2, [(0, .inr (.inl 61)), (1, .inl (0, [0])), (2, .inl (0, [1]))], [], [], ([(1, 0, 2147483647), (0, (-2147483648), 2147483647)], [], [])), [(1, 0, (0, [])), (2147483647, 1, (0, [1])), (0, 0, (0, []))])], [], [])
set_option maxRecDepth 1000000 in
theorem ac_428 : af_meth 19 ag_428 ak_428.2.2.1 = true := by decide +kernel
theorem aw_428 : af_wfK ak_428.2.1 ak_428.2.2.1 ak_428.2.2.2.2 ag_428.2.2.2.2.2.2.1 = true := by decide +kernel
theorem ah_428 : af_Holds aw_Sh 8 ak_428 := af_soundG (G := ag_428) (K := ak_428) (d := 7) pz_229 rfl rfl rfl rfl aw_428 ac_428 (af_HC ah_427 (by decide) af_HN)
def ag_429 : af_G := ((11, 2, (some .int), mc_236), aw_Sh, [ak_425, ak_428, ak_395], 1, ak_429.2.2.2.1, ak_429.2.2.2.2, [], [], [])
set_option maxRecDepth 1000000 in
theorem ac_429 : af_meth 26 ag_429 ak_429.2.2.1 = true := by decide +kernel
theorem aw_429 : af_wfK ak_429.2.1 ak_429.2.2.1 ak_429.2.2.2.2 ag_429.2.2.2.2.2.2.1 = true := by decide +kernel
theorem ah_429 : af_Holds aw_Sh 9 ak_429 := af_soundG (G := ag_429) (K := ak_429) (d := 8) pz_236 rfl rfl rfl rfl aw_429 ac_429 (af_HC ah_425 (by decide) (af_HC ah_428 (by decide) (af_HC ah_395 (by decide) af_HN)))
def ag_430 : af_G := ((11, 2, (some .int), mc_238), aw_Sh, [], 0, ak_430.2.2.2.1, ak_430.2.2.2.2, [(26, (2, [(0, .inr (.inl 61)), (1, .inl (0, [0]))], [], [((61, 0), (0, [])), ((61, 22), (0, [1]))], ([(0, 0, 115), (1, 7, 7)], [], [])), [(1, 0, (0, [])), (2147483647, 1, (0, [0])), (0, 0, (0, []))]),
  (26, (2, [(0, .inr (.inl 61)), (1, .inl (0, [0]))], [], [((61, 0), (0, [])), ((61, 22), (0, [1]))], ([(0, 0, 115), (1, 6, 6)], [], [])), [(1, 0, (0, [])), (2147483647, 1, (0, [0])), (0, 0, (0, []))]),
  (26, (2, [(0, .inr (.inl 61)), (1, .inl (0, [0]))], [], [((61, 0), (0, [])), ((61, 22), (0, [1]))], ([(0, 0, 115), (1, 5, 5)], [], [])), [(1, 0, (0, [])), (2147483647, 1, (0, [0])), (0, 0, (0, []))]),
  (26, (2, [(0, .inr (.inl 61)), (1, .inl (0, [0]))], [], [((61, 0), (0, [])), ((61, 22), (0, [1]))], ([(0, 0, 115), (1, 4, 4)], [], [])), [(1, 0, (0, [])), (2147483647, 1, (0, [0])), (0, 0, (0, []))]),
  (26, (2, [(0, .inr (.inl 61)), (1, .inl (0, [0]))], [], [((61, 0), (0, [])), ((61, 22), (0, [1]))], ([(0, 0, 115), (1, 3, 3)], [], [])), [(1, 0, (0, [])), (2147483647, 1, (0, [0])), (0, 0, (0, []))]),
  (26, (2, [(0, .inr (.inl 61)), (1, .inl (0, [0]))], [], [((61, 0), (0, [])), ((61, 22), (0, [1]))], ([(0, 0, 115), (1, 2, 2)], [], [])), [(1, 0, (0, [])), (2147483647, 1, (0, [0])), (0, 0, (0, []))]),
  (26, (2, [(0, .inr (.inl 61)), (1, .inl (0, [0]))], [], [((61, 0), (0, [])), ((61, 22), (0, [1]))], ([(0, 0, 115), (1, 1, 1)], [], [])), [(1, 0, (0, [])), (2147483647, 1, (0, [0])), (0, 0, (0, []))]),
  (26, (2, [(0, .inr (.inl 61)), (1, .inl (0, [0]))], [], [((61, 0), (0, [])), ((61, 22), (0, [1]))], ([(0, 0, 115), (1, 0, 0)], [], [])), [(1, 0, (0, [])), (2147483647, 1, (0, [0])), (0, 0, (0, []))])], [], [(0, 61, 22)])
set_option maxRecDepth 1000000 in
theorem ac_430 : af_meth 26 ag_430 ak_430.2.2.1 = true := by decide +kernel
theorem aw_430 : af_wfK ak_430.2.1 ak_430.2.2.1 ak_430.2.2.2.2 ag_430.2.2.2.2.2.2.1 = true := by decide +kernel
theorem ah_430 : af_Holds aw_Sh 1 ak_430 := af_soundG (G := ag_430) (K := ak_430) (d := 0) pz_238 rfl rfl rfl rfl aw_430 ac_430 af_HN
def ag_431 : af_G := ((11, 3, (some .int), mc_241), aw_Sh, [ak_376, ak_379, ak_387], 2, ak_431.2.2.2.1, ak_431.2.2.2.2, [], [], [])
set_option maxRecDepth 1000000 in
theorem ac_431 : af_meth 27 ag_431 ak_431.2.2.1 = true := by decide +kernel
theorem aw_431 : af_wfK ak_431.2.1 ak_431.2.2.1 ak_431.2.2.2.2 ag_431.2.2.2.2.2.2.1 = true := by decide +kernel
theorem ah_431 : af_Holds aw_Sh 3 ak_431 := af_soundG (G := ag_431) (K := ak_431) (d := 2) pz_241 rfl rfl rfl rfl aw_431 ac_431 (af_HC ah_376 (by decide) (af_HC ah_379 (by decide) (af_HC ah_387 (by decide) af_HN)))
def ag_432 : af_G := ((11, 3, (some .int), mc_242), aw_Sh, [ak_376, ak_379, ak_388], 2, ak_432.2.2.2.1, ak_432.2.2.2.2, [], [], [])
set_option maxRecDepth 1000000 in
theorem ac_432 : af_meth 23 ag_432 ak_432.2.2.1 = true := by decide +kernel
theorem aw_432 : af_wfK ak_432.2.1 ak_432.2.2.1 ak_432.2.2.2.2 ag_432.2.2.2.2.2.2.1 = true := by decide +kernel
theorem ah_432 : af_Holds aw_Sh 3 ak_432 := af_soundG (G := ag_432) (K := ak_432) (d := 2) pz_242 rfl rfl rfl rfl aw_432 ac_432 (af_HC ah_376 (by decide) (af_HC ah_379 (by decide) (af_HC ah_388 (by decide) af_HN)))
def ag_433 : af_G := ((11, 2, (some .int), mc_243), aw_Sh, [ak_379, ak_391], 1, ak_433.2.2.2.1, ak_433.2.2.2.2, [], [], [])
set_option maxRecDepth 1000000 in
theorem ac_433 : af_meth 18 ag_433 ak_433.2.2.1 = true := by decide +kernel
theorem aw_433 : af_wfK ak_433.2.1 ak_433.2.2.1 ak_433.2.2.2.2 ag_433.2.2.2.2.2.2.1 = true := by decide +kernel
theorem ah_433 : af_Holds aw_Sh 6 ak_433 := af_soundG (G := ag_433) (K := ak_433) (d := 5) pz_243 rfl rfl rfl rfl aw_433 ac_433 (af_HC ah_379 (by decide) (af_HC ah_391 (by decide) af_HN))
def ag_434 : af_G := ((11, 2, (some .int), mc_244), aw_Sh, [ak_379, ak_407], 1, ak_434.2.2.2.1, ak_434.2.2.2.2, [], [], [])
set_option maxRecDepth 1000000 in
theorem ac_434 : af_meth 18 ag_434 ak_434.2.2.1 = true := by decide +kernel
theorem aw_434 : af_wfK ak_434.2.1 ak_434.2.2.1 ak_434.2.2.2.2 ag_434.2.2.2.2.2.2.1 = true := by decide +kernel
theorem ah_434 : af_Holds aw_Sh 7 ak_434 := af_soundG (G := ag_434) (K := ak_434) (d := 6) pz_244 rfl rfl rfl rfl aw_434 ac_434 (af_HC ah_379 (by decide) (af_HC ah_407 (by decide) af_HN))
def ag_435 : af_G := ((11, 4, (some .int), mc_245), aw_Sh, [ak_379, ak_388, ak_389], 1, ak_435.2.2.2.1, ak_435.2.2.2.2, [(19, (4, [(0, .inr (.inl 61)), (1, .inl (0, [0])), (2, .inl (0, [1])), (3, .inl (0, [2]))], [], [((61, 0), (0, [])), ((63, 4), (0, [3]))], ([(1, (-2147483648), 2147483647), (2, 0, 6), (3, 1, 6), (0, 0, 5)], [], [])), [(1, 0, (0, [])), (2147483647, 1, (0, [2])), (0, 0, (0, []))])], [], [])
set_option maxRecDepth 1000000 in
theorem ac_435 : af_meth 32 ag_435 ak_435.2.2.1 = true := by decide +kernel
theorem aw_435 : af_wfK ak_435.2.1 ak_435.2.2.1 ak_435.2.2.2.2 ag_435.2.2.2.2.2.2.1 = true := by decide +kernel
theorem ah_435 : af_Holds aw_Sh 4 ak_435 := af_soundG (G := ag_435) (K := ak_435) (d := 3) pz_245 rfl rfl rfl rfl aw_435 ac_435 (af_HC ah_379 (by decide) (af_HC ah_388 (by decide) (af_HC ah_389 (by decide) af_HN)))
def ag_436 : af_G := ((11, 4, (some .int), mc_246), aw_Sh, [ak_376, ak_390], 1, ak_436.2.2.2.1, ak_436.2.2.2.2, [(19, (4, [(0, .inr (.inl 61)), (1, .inl (0, [0])), (2, .inl (0, [1])), (3, .inl (0, [2]))], [], [((61, 0), (0, [])), ((63, 3), (0, [3]))], ([(1, (-2147483648), 2147483647), (2, 0, 6), (3, 1, 6), (0, 0, 5)], [], [])), [(1, 0, (0, [])), (2147483647, 1, (0, [2])), (0, 0, (0, []))])], [], [])
set_option maxRecDepth 1000000 in
theorem ac_436 : af_meth 26 ag_436 ak_436.2.2.1 = true := by decide +kernel
theorem aw_436 : af_wfK ak_436.2.1 ak_436.2.2.1 ak_436.2.2.2.2 ag_436.2.2.2.2.2.2.1 = true := by decide +kernel
theorem ah_436 : af_Holds aw_Sh 5 ak_436 := af_soundG (G := ag_436) (K := ak_436) (d := 4) pz_246 rfl rfl rfl rfl aw_436 ac_436 (af_HC ah_376 (by decide) (af_HC ah_390 (by decide) af_HN))
def ag_437 : af_G := ((11, 3, (some .int), mc_247), aw_Sh, [ak_376, ak_379, ak_387], 2, ak_437.2.2.2.1, ak_437.2.2.2.2, [], [], [])
set_option maxRecDepth 1000000 in
theorem ac_437 : af_meth 44 ag_437 ak_437.2.2.1 = true := by decide +kernel
theorem aw_437 : af_wfK ak_437.2.1 ak_437.2.2.1 ak_437.2.2.2.2 ag_437.2.2.2.2.2.2.1 = true := by decide +kernel
theorem ah_437 : af_Holds aw_Sh 3 ak_437 := af_soundG (G := ag_437) (K := ak_437) (d := 2) pz_247 rfl rfl rfl rfl aw_437 ac_437 (af_HC ah_376 (by decide) (af_HC ah_379 (by decide) (af_HC ah_387 (by decide) af_HN)))
def ag_438 : af_G := ((11, 5, (some .int), mc_248), aw_Sh, [ak_377, ak_379], 1, ak_438.2.2.2.1, ak_438.2.2.2.2, [(19, (4, [(0, .inr (.inl 61)), (1, .inl (0, [0])), (2, .inl (0, [1])), (3, .inl (0, [2]))], [], [((61, 0), (0, [])), ((63, 4), (0, [3]))], ([(1, (-2147483648), 2147483647), (2, 0, 2147483647), (3, 1, 6), (0, 0, 5)], [], [])), [(2, 0, (0, [])), (2147483647, 1, (0, [2])), (0, 0, (0, [])), (1000, 0, (0, [])), (0, 0, (0, [])), (0, 0, (0, []))]),
  (28, (5, [(0, .inr (.inl 61)), (1, .inl (0, [0])), (2, .inl (0, [1])), (3, .inl (0, [2])), (4, .inl (0, [3]))], [], [((61, 0), (0, [])), ((63, 4), (0, [4]))], ([(1, (-2147483648), 2147483647), (2, 0, 2147483646), (3, 0, 6), (4, 1, 6), (0, 0, 5)], [], [])), [(2, 0, (0, [])), (2147483647, 1, (0, [2])), (0, 0, (0, [])), (1, 0, (0, [])), (2147483647, 1, (0, [3])), (0, 0, (0, []))])], [], [])
set_option maxRecDepth 1000000 in
theorem ac_438 : af_meth 48 ag_438 ak_438.2.2.1 = true := by decide +kernel
theorem aw_438 : af_wfK ak_438.2.1 ak_438.2.2.1 ak_438.2.2.2.2 ag_438.2.2.2.2.2.2.1 = true := by decide +kernel
theorem ah_438 : af_Holds aw_Sh 3 ak_438 := af_soundG (G := ag_438) (K := ak_438) (d := 2) pz_248 rfl rfl rfl rfl aw_438 ac_438 (af_HC ah_377 (by decide) (af_HC ah_379 (by decide) af_HN))
def ag_440 : af_G := ((11, 6, (some .int), mc_251), aw_Sh, [ak_384, ak_379, ak_439], 3, ak_440.2.2.2.1, ak_440.2.2.2.2, [(72, (7, [(0, .inr (.inl 61)), (1, .inl (0, [0])), (2, .inl (0, [1])), (3, .inl (0, [2])), (4, .inl (0, [3])), (5, .inl (0, [4]))], [], [((61, 0), (0, [])), ((63, 0), (0, [5])), ((63, 4), (0, [6]))], ([(3, 0, 9), (4, 0, 9), (5, 1, 10), (6, 1, 6), (0, 0, 5), (1, 0, 9), (2, 0, 2147483646)], [], [])), [(1, 0, (0, [])), (2147483647, 1, (0, [4])), (0, 0, (0, []))])], [], [])
set_option maxRecDepth 1000000 in
theorem ac_440 : af_meth 45 ag_440 ak_440.2.2.1 = true := by decide +kernel
theorem aw_440 : af_wfK ak_440.2.1 ak_440.2.2.1 ak_440.2.2.2.2 ag_440.2.2.2.2.2.2.1 = true := by decide +kernel
theorem ah_440 : af_Holds aw_Sh 7 ak_440 := af_soundG (G := ag_440) (K := ak_440) (d := 6) pz_251 rfl rfl rfl rfl aw_440 ac_440 (af_HC ah_384 (by decide) (af_HC ah_379 (by decide) (af_HC ah_439 (by decide) af_HN)))
def ag_441 : af_G := ((11, 3, (some .boolean), mc_167), aw_Sh, [], 2, ak_441.2.2.2.1, ak_441.2.2.2.2, [], [], [])
set_option maxRecDepth 1000000 in
theorem ac_441 : af_meth 15 ag_441 ak_441.2.2.1 = true := by decide +kernel
theorem aw_441 : af_wfK ak_441.2.1 ak_441.2.2.1 ak_441.2.2.2.2 ag_441.2.2.2.2.2.2.1 = true := by decide +kernel
theorem ah_441 : af_Holds aw_Sh 1 ak_441 := af_soundG (G := ag_441) (K := ak_441) (d := 0) pz_167 rfl rfl rfl rfl aw_441 ac_441 af_HN
def ag_442 : af_G := ((11, 2, (some .int), mc_252), aw_Sh, [ak_441], 1, ak_442.2.2.2.1, ak_442.2.2.2.2, [], [], [])
set_option maxRecDepth 1000000 in
theorem ac_442 : af_meth 23 ag_442 ak_442.2.2.1 = true := by decide +kernel
theorem aw_442 : af_wfK ak_442.2.1 ak_442.2.2.1 ak_442.2.2.2.2 ag_442.2.2.2.2.2.2.1 = true := by decide +kernel
theorem ah_442 : af_Holds aw_Sh 2 ak_442 := af_soundG (G := ag_442) (K := ak_442) (d := 1) pz_252 rfl rfl rfl rfl aw_442 ac_442 (af_HC ah_441 (by decide) af_HN)
def ag_443 : af_G := ((11, 6, (some .int), mc_253), aw_Sh, [ak_384, ak_379, ak_388, ak_439], 2, ak_443.2.2.2.1, ak_443.2.2.2.2, [(51, (7, [(0, .inr (.inl 61)), (1, .inl (0, [0])), (2, .inl (0, [1])), (3, .inl (0, [2])), (4, .inl (0, [3])), (5, .inl (0, [4]))], [], [((61, 0), (0, [])), ((63, 0), (0, [5])), ((63, 4), (0, [6]))], ([(2, 0, 9), (3, (-2147483648), 2147483647), (4, 0, 9), (5, 1, 10), (6, 1, 6), (0, 0, 5), (1, 0, 9)], [], [])), [(2, 0, (0, [])), (2147483647, 1, (0, [4])), (0, 0, (0, []))]),
  (87, (7, [(0, .inr (.inl 61)), (1, .inl (0, [0])), (2, .inl (0, [1])), (3, .inl (0, [2])), (4, .inl (0, [3])), (5, .inl (0, [4]))], [], [((61, 0), (0, [])), ((63, 0), (0, [5])), ((63, 4), (0, [6]))], ([(2, 0, 2147483646), (3, (-2147483648), 2147483647), (4, 0, 6), (5, 1, 10), (6, 1, 6), (0, 0, 5), (1, 0, 9)], [], [])), [(1, 0, (0, [])), (2147483647, 1, (0, [4])), (0, 0, (0, []))])], [], [])
set_option maxRecDepth 1000000 in
theorem ac_443 : af_meth 34 ag_443 ak_443.2.2.1 = true := by decide +kernel
theorem aw_443 : af_wfK ak_443.2.1 ak_443.2.2.1 ak_443.2.2.2.2 ag_443.2.2.2.2.2.2.1 = true := by decide +kernel
theorem ah_443 : af_Holds aw_Sh 7 ak_443 := af_soundG (G := ag_443) (K := ak_443) (d := 6) pz_253 rfl rfl rfl rfl aw_443 ac_443 (af_HC ah_384 (by decide) (af_HC ah_379 (by decide) (af_HC ah_388 (by decide) (af_HC ah_439 (by decide) af_HN))))
def ag_444 : af_G := ((11, 3, (some .boolean), mc_167), aw_Sh, [], 2, ak_444.2.2.2.1, ak_444.2.2.2.2, [], [], [])
set_option maxRecDepth 1000000 in
theorem ac_444 : af_meth 15 ag_444 ak_444.2.2.1 = true := by decide +kernel
theorem aw_444 : af_wfK ak_444.2.1 ak_444.2.2.1 ak_444.2.2.2.2 ag_444.2.2.2.2.2.2.1 = true := by decide +kernel
theorem ah_444 : af_Holds aw_Sh 1 ak_444 := af_soundG (G := ag_444) (K := ak_444) (d := 0) pz_167 rfl rfl rfl rfl aw_444 ac_444 af_HN
def ag_445 : af_G := ((11, 2, (some .boolean), mc_194), aw_Sh, [ak_444], 2, ak_445.2.2.2.1, ak_445.2.2.2.2, [], [], [])
set_option maxRecDepth 1000000 in
theorem ac_445 : af_meth 16 ag_445 ak_445.2.2.1 = true := by decide +kernel
theorem aw_445 : af_wfK ak_445.2.1 ak_445.2.2.1 ak_445.2.2.2.2 ag_445.2.2.2.2.2.2.1 = true := by decide +kernel
theorem ah_445 : af_Holds aw_Sh 2 ak_445 := af_soundG (G := ag_445) (K := ak_445) (d := 1) pz_194 rfl rfl rfl rfl aw_445 ac_445 (af_HC ah_444 (by decide) af_HN)
def ag_446 : af_G := ((11, 2, none, mc_239), aw_Sh, [], 0, ak_446.2.2.2.1, ak_446.2.2.2.2, [(2, (1, [(0, .inr (.inl 61)), (1, .inl (0, [0]))], [], [], ([(0, 0, 115)], [], [])), [(1, 0, (0, [])), (2147483647, 1, (0, [0])), (0, 0, (0, []))])], [], [])
set_option maxRecDepth 1000000 in
theorem ac_446 : af_meth 21 ag_446 ak_446.2.2.1 = true := by decide +kernel
theorem aw_446 : af_wfK ak_446.2.1 ak_446.2.2.1 ak_446.2.2.2.2 ag_446.2.2.2.2.2.2.1 = true := by decide +kernel
theorem ah_446 : af_Holds aw_Sh 1 ak_446 := af_soundG (G := ag_446) (K := ak_446) (d := 0) pz_239 rfl rfl rfl rfl aw_446 ac_446 af_HN
def ag_447 : af_G := ((11, 3, (some .boolean), mc_249), aw_Sh, [], 2, ak_447.2.2.2.1, ak_447.2.2.2.2, [], [], [])
set_option maxRecDepth 1000000 in
theorem ac_447 : af_meth 18 ag_447 ak_447.2.2.1 = true := by decide +kernel
theorem aw_447 : af_wfK ak_447.2.1 ak_447.2.2.1 ak_447.2.2.2.2 ag_447.2.2.2.2.2.2.1 = true := by decide +kernel
theorem ah_447 : af_Holds aw_Sh 1 ak_447 := af_soundG (G := ag_447) (K := ak_447) (d := 0) pz_249 rfl rfl rfl rfl aw_447 ac_447 af_HN
def ag_448 : af_G := ((11, 4, (some .boolean), mc_254), aw_Sh, [ak_447, ak_439], 3, ak_448.2.2.2.1, ak_448.2.2.2.2, [], [], [])
set_option maxRecDepth 1000000 in
theorem ac_448 : af_meth 24 ag_448 ak_448.2.2.1 = true := by decide +kernel
theorem aw_448 : af_wfK ak_448.2.1 ak_448.2.2.1 ak_448.2.2.2.2 ag_448.2.2.2.2.2.2.1 = true := by decide +kernel
theorem ah_448 : af_Holds aw_Sh 7 ak_448 := af_soundG (G := ag_448) (K := ak_448) (d := 6) pz_254 rfl rfl rfl rfl aw_448 ac_448 (af_HC ah_447 (by decide) (af_HC ah_439 (by decide) af_HN))
def ag_449 : af_G := ((11, 2, none, mc_240), aw_Sh, [], 0, ak_449.2.2.2.1, ak_449.2.2.2.2, [(2, (1, [(0, .inr (.inl 61)), (1, .inl (0, [0]))], [], [], ([(0, 0, 115)], [], [])), [(1, 0, (0, [])), (2147483647, 1, (0, [0])), (0, 0, (0, []))])], [], [])
set_option maxRecDepth 1000000 in
theorem ac_449 : af_meth 21 ag_449 ak_449.2.2.1 = true := by decide +kernel
theorem aw_449 : af_wfK ak_449.2.1 ak_449.2.2.1 ak_449.2.2.2.2 ag_449.2.2.2.2.2.2.1 = true := by decide +kernel
theorem ah_449 : af_Holds aw_Sh 1 ak_449 := af_soundG (G := ag_449) (K := ak_449) (d := 0) pz_240 rfl rfl rfl rfl aw_449 ac_449 af_HN
def ag_450 : af_G := ((11, 7, (some .int), mc_255), aw_Sh, [ak_377, ak_386, ak_445, ak_384, ak_376, ak_446, ak_449, ak_448], 3, ak_450.2.2.2.1, ak_450.2.2.2.2, [(46, (7, [(0, .inr (.inl 61)), (1, .inl (0, [0])), (2, .inl (0, [1])), (3, .inl (0, [2])), (4, .inl (0, [3])), (5, .inl (0, [4]))], [], [((61, 0), (0, [])), ((63, 0), (0, [5])), ((63, 3), (0, [6]))], ([(3, (-1), 2147483646), (4, 0, 2147483647), (5, 1, 10), (6, 1, 6), (0, 0, 9), (1, 0, 9), (2, 0, 5)], [], [])), [(2, 0, (0, [])), (2147483647, 1, (0, [4])), (0, 0, (0, [])), (1000, 0, (0, [])), (0, 0, (0, [])), (0, 0, (0, []))]),
  (101, (8, [(0, .inr (.inl 61)), (1, .inl (0, [0])), (2, .inl (0, [1])), (3, .inl (0, [2])), (4, .inl (0, [3])), (5, .inl (0, [4])), (6, .inl (0, [5]))], [], [((61, 0), (0, [])), ((63, 0), (0, [6])), ((63, 3), (0, [7]))], ([(3, (-1), 2147483646), (4, 0, 2147483646), (5, 0, 10), (6, 1, 10), (7, 1, 6), (0, 0, 9), (1, 0, 9), (2, 0, 5)], [], [])), [(2, 0, (0, [])), (2147483647, 1, (0, [4])), (0, 0, (0, [])), (1, 0, (0, [])), (2147483647, 1, (0, [5])), (0, 0, (0, []))])], [], [])
set_option maxRecDepth 1000000 in
theorem ac_450 : af_meth 32 ag_450 ak_450.2.2.1 = true := by decide +kernel
theorem aw_450 : af_wfK ak_450.2.1 ak_450.2.2.1 ak_450.2.2.2.2 ag_450.2.2.2.2.2.2.1 = true := by decide +kernel
theorem ah_450 : af_Holds aw_Sh 8 ak_450 := af_soundG (G := ag_450) (K := ak_450) (d := 7) pz_255 rfl rfl rfl rfl aw_450 ac_450 (af_HC ah_377 (by decide) (af_HC ah_386 (by decide) (af_HC ah_445 (by decide) (af_HC ah_384 (by decide) (af_HC ah_376 (by decide) (af_HC ah_446 (by decide) (af_HC ah_449 (by decide) (af_HC ah_448 (by decide) af_HN))))))))
def ag_451 : af_G := ((11, 3, (some .boolean), mc_167), aw_Sh, [], 1, ak_451.2.2.2.1, ak_451.2.2.2.2, [], [], [])
set_option maxRecDepth 1000000 in
theorem ac_451 : af_meth 15 ag_451 ak_451.2.2.1 = true := by decide +kernel
theorem aw_451 : af_wfK ak_451.2.1 ak_451.2.2.1 ak_451.2.2.2.2 ag_451.2.2.2.2.2.2.1 = true := by decide +kernel
theorem ah_451 : af_Holds aw_Sh 1 ak_451 := af_soundG (G := ag_451) (K := ak_451) (d := 0) pz_167 rfl rfl rfl rfl aw_451 ac_451 af_HN
def ag_452 : af_G := ((11, 4, (some .int), mc_256), aw_Sh, [ak_388], 1, ak_452.2.2.2.1, ak_452.2.2.2.2, [(4, (3, [(0, .inr (.inl 61)), (1, .inl (0, [0])), (2, .inl (0, [1])), (3, .inl (0, [2]))], [], [], ([(1, (-2147483648), 2147483647), (2, 0, 6), (0, 0, 5)], [], [])), [(1, 0, (0, [])), (2147483647, 1, (0, [2])), (0, 0, (0, []))])], [], [])
set_option maxRecDepth 1000000 in
theorem ac_452 : af_meth 27 ag_452 ak_452.2.2.1 = true := by decide +kernel
theorem aw_452 : af_wfK ak_452.2.1 ak_452.2.2.1 ak_452.2.2.2.2 ag_452.2.2.2.2.2.2.1 = true := by decide +kernel
theorem ah_452 : af_Holds aw_Sh 3 ak_452 := af_soundG (G := ag_452) (K := ak_452) (d := 2) pz_256 rfl rfl rfl rfl aw_452 ac_452 (af_HC ah_388 (by decide) af_HN)
def ag_453 : af_G := ((11, 7, (some .int), mc_257), aw_Sh, [ak_451, ak_377, ak_386, ak_376, ak_419, ak_420, ak_428, ak_446, ak_449, ak_452], 2, ak_453.2.2.2.1, ak_453.2.2.2.2, [(46, (7, [(0, .inr (.inl 61)), (1, .inl (0, [0])), (2, .inl (0, [1])), (3, .inl (0, [2])), (4, .inl (0, [3])), (5, .inl (0, [4]))], [], [((61, 0), (0, [])), ((63, 0), (0, [5])), ((63, 3), (0, [6]))], ([(2, (-1), 2147483646), (3, (-2147483648), 2147483647), (4, 0, 2147483647), (5, 1, 10), (6, 1, 6), (0, 0, 5), (1, 1, 3)], [], [])), [(2, 0, (0, [])), (2147483647, 1, (0, [4])), (0, 0, (0, [])), (1000, 0, (0, [])), (0, 0, (0, [])), (0, 0, (0, []))]),
  (74, (8, [(0, .inr (.inl 61)), (1, .inl (0, [0])), (2, .inl (0, [1])), (3, .inl (0, [2])), (4, .inl (0, [3])), (5, .inl (0, [4])), (6, .inl (0, [5]))], [], [((61, 0), (0, [])), ((63, 0), (0, [6])), ((63, 3), (0, [7]))], ([(2, (-1), 2147483646), (3, (-2147483648), 2147483647), (4, 0, 2147483646), (5, 0, 10), (6, 1, 10), (7, 1, 6), (0, 0, 5), (1, 1, 3)], [], [])), [(2, 0, (0, [])), (2147483647, 1, (0, [4])), (0, 0, (0, [])), (1, 0, (0, [])), (2147483647, 1, (0, [5])), (0, 0, (0, []))])], [], [])
set_option maxRecDepth 1000000 in
theorem ac_453 : af_meth 35 ag_453 ak_453.2.2.1 = true := by decide +kernel
theorem aw_453 : af_wfK ak_453.2.1 ak_453.2.2.1 ak_453.2.2.2.2 ag_453.2.2.2.2.2.2.1 = true := by decide +kernel
theorem ah_453 : af_Holds aw_Sh 9 ak_453 := af_soundG (G := ag_453) (K := ak_453) (d := 8) pz_257 rfl rfl rfl rfl aw_453 ac_453 (af_HC ah_451 (by decide) (af_HC ah_377 (by decide) (af_HC ah_386 (by decide) (af_HC ah_376 (by decide) (af_HC ah_419 (by decide) (af_HC ah_420 (by decide) (af_HC ah_428 (by decide) (af_HC ah_446 (by decide) (af_HC ah_449 (by decide) (af_HC ah_452 (by decide) af_HN))))))))))
def ag_454 : af_G := ((11, 1, (some .int), mc_258), aw_Sh, [], 0, ak_454.2.2.2.1, ak_454.2.2.2.2, [], [], [])
set_option maxRecDepth 1000000 in
theorem ac_454 : af_meth 16 ag_454 ak_454.2.2.1 = true := by decide +kernel
theorem aw_454 : af_wfK ak_454.2.1 ak_454.2.2.1 ak_454.2.2.2.2 ag_454.2.2.2.2.2.2.1 = true := by decide +kernel
theorem ah_454 : af_Holds aw_Sh 1 ak_454 := af_soundG (G := ag_454) (K := ak_454) (d := 0) pz_258 rfl rfl rfl rfl aw_454 ac_454 af_HN
def ag_455 : af_G := ((11, 7, (some .int), mc_259), aw_Sh, [ak_377, ak_406], 1, ak_455.2.2.2.1, ak_455.2.2.2.2, [(31, (4, [(0, .inr (.inl 61)), (1, .inl (0, [0])), (2, .inl (0, [1])), (3, .inl (0, [2])), (4, .inl (0, [3]))], [], [((61, 0), (0, []))], ([(1, (-2147483648), 2147483647), (2, 0, 63), (3, 0, 2147483647), (0, 0, 2147483646)], [], [])), [(2, 0, (0, [])), (2147483647, 1, (0, [3])), (0, 0, (0, [])), (1000, 0, (0, [])), (0, 0, (0, [])), (0, 0, (0, []))]),
  (64, (6, [(0, .inr (.inl 61)), (1, .inl (0, [0])), (2, .inl (0, [1])), (3, .inl (0, [2])), (4, .inl (0, [3])), (5, .inl (0, [4])), (6, .inl (0, [5]))], [], [((61, 0), (0, []))], ([(1, (-2147483648), 2147483647), (2, 0, 63), (3, 0, 2147483646), (4, 0, 1), (5, 0, 6), (0, 0, 2147483646)], [], [])), [(2, 0, (0, [])), (2147483647, 1, (0, [3])), (0, 0, (0, [])), (1, 0, (0, [])), (2147483647, 1, (0, [5])), (0, 0, (0, []))])], [], [])
set_option maxRecDepth 1000000 in
theorem ac_455 : af_meth 30 ag_455 ak_455.2.2.1 = true := by decide +kernel
theorem aw_455 : af_wfK ak_455.2.1 ak_455.2.2.1 ak_455.2.2.2.2 ag_455.2.2.2.2.2.2.1 = true := by decide +kernel
theorem ah_455 : af_Holds aw_Sh 3 ak_455 := af_soundG (G := ag_455) (K := ak_455) (d := 2) pz_259 rfl rfl rfl rfl aw_455 ac_455 (af_HC ah_377 (by decide) (af_HC ah_406 (by decide) af_HN))
def ag_456 : af_G := ((11, 1, (some .int), mc_260), aw_Sh, [], 0, ak_456.2.2.2.1, ak_456.2.2.2.2, [], [], [])
set_option maxRecDepth 1000000 in
theorem ac_456 : af_meth 16 ag_456 ak_456.2.2.1 = true := by decide +kernel
theorem aw_456 : af_wfK ak_456.2.1 ak_456.2.2.1 ak_456.2.2.2.2 ag_456.2.2.2.2.2.2.1 = true := by decide +kernel
theorem ah_456 : af_Holds aw_Sh 1 ak_456 := af_soundG (G := ag_456) (K := ak_456) (d := 0) pz_260 rfl rfl rfl rfl aw_456 ac_456 af_HN
def ag_457 : af_G := ((11, 6, (some .int), mc_261), aw_Sh, [ak_425, ak_376, ak_379, ak_390, ak_428, ak_446, ak_449], 3, ak_457.2.2.2.1, ak_457.2.2.2.2, [(60, (7, [(0, .inr (.inl 61)), (1, .inl (0, [0])), (2, .inl (0, [1])), (3, .inl (0, [2])), (4, .inl (0, [3])), (5, .inl (0, [4]))], [], [((61, 0), (0, [])), ((63, 3), (0, [5])), ((63, 4), (0, [6]))], ([(3, (-2147483648), 2147483647), (4, 0, 60), (5, 1, 6), (6, 1, 6), (0, 0, 5), (1, 0, 5), (2, 1, 60)], [], [])), [(1, 0, (0, [])), (2147483647, 1, (0, [4])), (0, 0, (0, []))])], [], [])
set_option maxRecDepth 1000000 in
theorem ac_457 : af_meth 33 ag_457 ak_457.2.2.1 = true := by decide +kernel
theorem aw_457 : af_wfK ak_457.2.1 ak_457.2.2.1 ak_457.2.2.2.2 ag_457.2.2.2.2.2.2.1 = true := by decide +kernel
theorem ah_457 : af_Holds aw_Sh 9 ak_457 := af_soundG (G := ag_457) (K := ak_457) (d := 8) pz_261 rfl rfl rfl rfl aw_457 ac_457 (af_HC ah_425 (by decide) (af_HC ah_376 (by decide) (af_HC ah_379 (by decide) (af_HC ah_390 (by decide) (af_HC ah_428 (by decide) (af_HC ah_446 (by decide) (af_HC ah_449 (by decide) af_HN)))))))
def ag_458 : af_G := ((11, 2, (some .int), mc_262), aw_Sh, [], 0, ak_458.2.2.2.1, ak_458.2.2.2.2, [], [], [])
set_option maxRecDepth 1000000 in
theorem ac_458 : af_meth 21 ag_458 ak_458.2.2.1 = true := by decide +kernel
theorem aw_458 : af_wfK ak_458.2.1 ak_458.2.2.1 ak_458.2.2.2.2 ag_458.2.2.2.2.2.2.1 = true := by decide +kernel
theorem ah_458 : af_Holds aw_Sh 1 ak_458 := af_soundG (G := ag_458) (K := ak_458) (d := 0) pz_262 rfl rfl rfl rfl aw_458 ac_458 af_HN
def ag_459 : af_G := ((11, 2, (some .int), mc_262), aw_Sh, [], 1, ak_459.2.2.2.1, ak_459.2.2.2.2, [], [], [])
set_option maxRecDepth 1000000 in
theorem ac_459 : af_meth 21 ag_459 ak_459.2.2.1 = true := by decide +kernel
theorem aw_459 : af_wfK ak_459.2.1 ak_459.2.2.1 ak_459.2.2.2.2 ag_459.2.2.2.2.2.2.1 = true := by decide +kernel
theorem ah_459 : af_Holds aw_Sh 1 ak_459 := af_soundG (G := ag_459) (K := ak_459) (d := 0) pz_262 rfl rfl rfl rfl aw_459 ac_459 af_HN
def ag_460 : af_G := ((11, 2, (some .int), mc_262), aw_Sh, [], 0, ak_460.2.2.2.1, ak_460.2.2.2.2, [], [], [])
set_option maxRecDepth 1000000 in
theorem ac_460 : af_meth 21 ag_460 ak_460.2.2.1 = true := by decide +kernel
theorem aw_460 : af_wfK ak_460.2.1 ak_460.2.2.1 ak_460.2.2.2.2 ag_460.2.2.2.2.2.2.1 = true := by decide +kernel
theorem ah_460 : af_Holds aw_Sh 1 ak_460 := af_soundG (G := ag_460) (K := ak_460) (d := 0) pz_262 rfl rfl rfl rfl aw_460 ac_460 af_HN
def ag_461 : af_G := ((11, 2, (some .int), mc_262), aw_Sh, [], 0, ak_461.2.2.2.1, ak_461.2.2.2.2, [], [], [])
set_option maxRecDepth 1000000 in
theorem ac_461 : af_meth 21 ag_461 ak_461.2.2.1 = true := by decide +kernel
theorem aw_461 : af_wfK ak_461.2.1 ak_461.2.2.1 ak_461.2.2.2.2 ag_461.2.2.2.2.2.2.1 = true := by decide +kernel
theorem ah_461 : af_Holds aw_Sh 1 ak_461 := af_soundG (G := ag_461) (K := ak_461) (d := 0) pz_262 rfl rfl rfl rfl aw_461 ac_461 af_HN
def ag_462 : af_G := ((11, 6, (some .int), mc_263), aw_Sh, [ak_394, ak_402, ak_416, ak_417, ak_422, ak_423, ak_427, ak_458, ak_460, ak_461, ak_459], 3, ak_462.2.2.2.1, ak_462.2.2.2.2, [(7, (4, [(0, .inr (.inl 61)), (1, .inl (0, [0])), (2, .inl (0, [1])), (3, .inl (0, [3]))], [], [((63, 0), (0, [2]))], ([(3, 0, 2147483647), (0, (-2147483648), 2147483647), (1, (-2147483648), 2147483647), (2, 1, 10)], [], [])), [(2, 0, (0, [])), (2147483647, 1, (0, [3])), (0, 0, (0, [])), (1000, 0, (0, [])), (0, 0, (0, [])), (0, 0, (0, []))]),
  (63, (6, [(0, .inr (.inl 61)), (1, .inl (0, [0])), (2, .inl (0, [1])), (3, .inl (0, [3])), (4, .inl (0, [4]))], [], [((63, 0), (0, [2])), ((63, 115), (0, [5]))], ([(3, 0, 2147483646), (4, 0, 6), (5, (-2147483648), 399), (0, 1, 2147483647), (1, (-2147483648), 2147483647), (2, 1, 10)], [], [])), [(2, 0, (0, [])), (2147483647, 1, (0, [3])), (0, 0, (0, [])), (1, 0, (0, [])), (2147483647, 1, (0, [4])), (0, 0, (0, []))])], [], [])
set_option maxRecDepth 1000000 in
theorem ac_462 : af_meth 38 ag_462 ak_462.2.2.1 = true := by decide +kernel
theorem aw_462 : af_wfK ak_462.2.1 ak_462.2.2.1 ak_462.2.2.2.2 ag_462.2.2.2.2.2.2.1 = true := by decide +kernel
theorem ah_462 : af_Holds aw_Sh 8 ak_462 := af_soundG (G := ag_462) (K := ak_462) (d := 7) pz_263 rfl rfl rfl rfl aw_462 ac_462 (af_HC ah_394 (by decide) (af_HC ah_402 (by decide) (af_HC ah_416 (by decide) (af_HC ah_417 (by decide) (af_HC ah_422 (by decide) (af_HC ah_423 (by decide) (af_HC ah_427 (by decide) (af_HC ah_458 (by decide) (af_HC ah_460 (by decide) (af_HC ah_461 (by decide) (af_HC ah_459 (by decide) af_HN)))))))))))
def ag_463 : af_G := ((11, 3, (some .int), mc_264), aw_Sh, [ak_425, ak_395, ak_462], 2, ak_463.2.2.2.1, ak_463.2.2.2.2, [], [], [])
set_option maxRecDepth 1000000 in
theorem ac_463 : af_meth 32 ag_463 ak_463.2.2.1 = true := by decide +kernel
theorem aw_463 : af_wfK ak_463.2.1 ak_463.2.2.1 ak_463.2.2.2.2 ag_463.2.2.2.2.2.2.1 = true := by decide +kernel
theorem ah_463 : af_Holds aw_Sh 9 ak_463 := af_soundG (G := ag_463) (K := ak_463) (d := 8) pz_264 rfl rfl rfl rfl aw_463 ac_463 (af_HC ah_425 (by decide) (af_HC ah_395 (by decide) (af_HC ah_462 (by decide) af_HN)))
def ag_464 : af_G := ((11, 3, (some .boolean), mc_167), aw_Sh, [], 2, ak_464.2.2.2.1, ak_464.2.2.2.2, [], [], [])
set_option maxRecDepth 1000000 in
theorem ac_464 : af_meth 14 ag_464 ak_464.2.2.1 = true := by decide +kernel
theorem aw_464 : af_wfK ak_464.2.1 ak_464.2.2.1 ak_464.2.2.2.2 ag_464.2.2.2.2.2.2.1 = true := by decide +kernel
theorem ah_464 : af_Holds aw_Sh 1 ak_464 := af_soundG (G := ag_464) (K := ak_464) (d := 0) pz_167 rfl rfl rfl rfl aw_464 ac_464 af_HN
def ag_465 : af_G := ((11, 2, (some .boolean), mc_197), aw_Sh, [ak_464], 2, ak_465.2.2.2.1, ak_465.2.2.2.2, [], [], [])
set_option maxRecDepth 1000000 in
theorem ac_465 : af_meth 16 ag_465 ak_465.2.2.1 = true := by decide +kernel
theorem aw_465 : af_wfK ak_465.2.1 ak_465.2.2.1 ak_465.2.2.2.2 ag_465.2.2.2.2.2.2.1 = true := by decide +kernel
theorem ah_465 : af_Holds aw_Sh 2 ak_465 := af_soundG (G := ag_465) (K := ak_465) (d := 1) pz_197 rfl rfl rfl rfl aw_465 ac_465 (af_HC ah_464 (by decide) af_HN)
def ag_466 : af_G := ((11, 6, (some .int), mc_265), aw_Sh, [ak_465], 4, ak_466.2.2.2.1, ak_466.2.2.2.2, [], [], [])
set_option maxRecDepth 1000000 in
theorem ac_466 : af_meth 15 ag_466 ak_466.2.2.1 = true := by decide +kernel
theorem aw_466 : af_wfK ak_466.2.1 ak_466.2.2.1 ak_466.2.2.2.2 ag_466.2.2.2.2.2.2.1 = true := by decide +kernel
theorem ah_466 : af_Holds aw_Sh 3 ak_466 := af_soundG (G := ag_466) (K := ak_466) (d := 2) pz_265 rfl rfl rfl rfl aw_466 ac_466 (af_HC ah_465 (by decide) af_HN)
def ag_467 : af_G := ((11, 3, (some .boolean), mc_167), aw_Sh, [], 1, ak_467.2.2.2.1, ak_467.2.2.2.2, [], [], [])
set_option maxRecDepth 1000000 in
theorem ac_467 : af_meth 15 ag_467 ak_467.2.2.1 = true := by decide +kernel
theorem aw_467 : af_wfK ak_467.2.1 ak_467.2.2.1 ak_467.2.2.2.2 ag_467.2.2.2.2.2.2.1 = true := by decide +kernel
theorem ah_467 : af_Holds aw_Sh 1 ak_467 := af_soundG (G := ag_467) (K := ak_467) (d := 0) pz_167 rfl rfl rfl rfl aw_467 ac_467 af_HN
def ag_468 : af_G := ((11, 6, (some .int), mc_265), aw_Sh, [ak_467, ak_379, ak_391, ak_446, ak_449, ak_462], 4, ak_468.2.2.2.1, ak_468.2.2.2.2, [(35, (7, [(0, .inr (.inl 61)), (1, .inl (0, [0])), (2, .inl (0, [1])), (3, .inl (0, [2])), (4, .inl (0, [4])), (5, .inl (0, [5]))], [], [((61, 0), (0, [])), ((63, 0), (0, [3])), ((63, 4), (0, [6]))], ([(4, (-2147483648), 2147483647), (5, 0, 30), (6, 1, 6), (0, 0, 5), (1, 1, 30), (2, (-2147483648), 2147483647), (3, 1, 10)], [], [])), [(1, 0, (0, [])), (2147483647, 1, (0, [5])), (0, 0, (0, []))])], [], [])
set_option maxRecDepth 1000000 in
theorem ac_468 : af_meth 29 ag_468 ak_468.2.2.1 = true := by decide +kernel
theorem aw_468 : af_wfK ak_468.2.1 ak_468.2.2.1 ak_468.2.2.2.2 ag_468.2.2.2.2.2.2.1 = true := by decide +kernel
theorem ah_468 : af_Holds aw_Sh 9 ak_468 := af_soundG (G := ag_468) (K := ak_468) (d := 8) pz_265 rfl rfl rfl rfl aw_468 ac_468 (af_HC ah_467 (by decide) (af_HC ah_379 (by decide) (af_HC ah_391 (by decide) (af_HC ah_446 (by decide) (af_HC ah_449 (by decide) (af_HC ah_462 (by decide) af_HN))))))
def ag_469 : af_G := ((11, 3, (some .boolean), mc_167), aw_Sh, [], 1, ak_469.2.2.2.1, ak_469.2.2.2.2, [], [], [])
set_option maxRecDepth 1000000 in
theorem ac_469 : af_meth 15 ag_469 ak_469.2.2.1 = true := by decide +kernel
theorem aw_469 : af_wfK ak_469.2.1 ak_469.2.2.1 ak_469.2.2.2.2 ag_469.2.2.2.2.2.2.1 = true := by decide +kernel
theorem ah_469 : af_Holds aw_Sh 1 ak_469 := af_soundG (G := ag_469) (K := ak_469) (d := 0) pz_167 rfl rfl rfl rfl aw_469 ac_469 af_HN
def ag_470 : af_G := ((11, 2, (some .int), mc_271), aw_Sh, [ak_469], 1, ak_470.2.2.2.1, ak_470.2.2.2.2, [], [], [])
set_option maxRecDepth 1000000 in
theorem ac_470 : af_meth 23 ag_470 ak_470.2.2.1 = true := by decide +kernel
theorem aw_470 : af_wfK ak_470.2.1 ak_470.2.2.1 ak_470.2.2.2.2 ag_470.2.2.2.2.2.2.1 = true := by decide +kernel
theorem ah_470 : af_Holds aw_Sh 2 ak_470 := af_soundG (G := ag_470) (K := ak_470) (d := 1) pz_271 rfl rfl rfl rfl aw_470 ac_470 (af_HC ah_469 (by decide) af_HN)
def ag_471 : af_G := ((11, 3, (some .boolean), mc_282), aw_Sh, [ak_411], 3, ak_471.2.2.2.1, ak_471.2.2.2.2, [(18, (3, [(0, .inr (.inl 61)), (1, .inl (0, [0])), (2, .inl (0, []))], [], [((61, 0), (0, [])), ((63, 0), (0, [1])), ((63, 4), (0, [2]))], ([(0, 0, 0), (1, 0, 10), (2, 0, 6)], [], [])), [(2, 0, (0, [])), (2147483647, 1, (0, [])), (0, 0, (0, []))]),
  (18, (3, [(0, .inr (.inl 61)), (1, .inl (0, [0])), (2, .inl (1, []))], [], [((61, 0), (0, [])), ((63, 0), (0, [1])), ((63, 4), (0, [2])), ((76, 0), (0, [1]))], ([(0, 0, 0), (1, 0, 10), (2, 0, 6)], [], [])), [(2, 0, (0, [])), (2147483647, 1, (1, [])), (0, 0, (0, []))]),
  (18, (3, [(0, .inr (.inl 61)), (1, .inl (0, [0])), (2, .inl (2, []))], [], [((61, 0), (0, [])), ((63, 0), (0, [1])), ((63, 4), (0, [2])), ((76, 0), (0, [1]))], ([(0, 0, 0), (1, 0, 10), (2, 0, 6)], [], [])), [(2, 0, (0, [])), (2147483647, 1, (2, [])), (0, 0, (0, []))]),
  (18, (3, [(0, .inr (.inl 61)), (1, .inl (0, [0])), (2, .inl (3, []))], [], [((61, 0), (0, [])), ((63, 0), (0, [1])), ((63, 4), (0, [2])), ((76, 0), (0, [1]))], ([(0, 0, 0), (1, 0, 10), (2, 0, 6)], [], [])), [(2, 0, (0, [])), (2147483647, 1, (3, [])), (0, 0, (0, []))]),
  (18, (3, [(0, .inr (.inl 61)), (1, .inl (0, [0])), (2, .inl (4, []))], [], [((61, 0), (0, [])), ((63, 0), (0, [1])), ((63, 4), (0, [2])), ((76, 0), (0, [1]))], ([(0, 0, 0), (1, 0, 10), (2, 0, 6)], [], [])), [(2, 0, (0, [])), (2147483647, 1, (4, [])), (0, 0, (0, []))]),
  (18, (4, [(0, .inr (.inl 61)), (1, .inl (0, [0])), (2, .inl (0, [3]))], [], [((61, 0), (0, [])), ((63, 0), (0, [1])), ((63, 4), (0, [2])), ((76, 0), (0, [1])), ((76, 4), (0, [2]))], ([(3, 5, 411), (0, 0, 0), (1, 0, 10), (2, 0, 6)], [], [])), [(2, 0, (0, [])), (2147483647, 1, (0, [3])), (0, 0, (0, []))]),
  (51, (4, [(0, .inr (.inl 61)), (1, .inl (0, [0])), (2, .inl (0, [3]))], [], [((61, 0), (0, [])), ((63, 0), (0, [1])), ((63, 4), (0, [2])), ((76, 0), (0, [1])), ((76, 4), (0, [2]))], ([(3, 0, 27), (0, 0, 0), (1, 0, 10), (2, 0, 6)], [], [])), [(1, 0, (0, [])), (2147483647, 1, (0, [3])), (0, 0, (0, []))])], [(63, 1, 4), (63, 5, 411), (76, 1, 4), (76, 5, 411), (76, 412, 415), (76, 416, 822)], [])
set_option maxRecDepth 1000000 in
theorem ac_471 : af_meth 23 ag_471 ak_471.2.2.1 = true := by decide +kernel
theorem aw_471 : af_wfK ak_471.2.1 ak_471.2.2.1 ak_471.2.2.2.2 ag_471.2.2.2.2.2.2.1 = true := by decide +kernel
theorem ah_471 : af_Holds aw_Sh 2 ak_471 := af_soundG (G := ag_471) (K := ak_471) (d := 1) pz_282 rfl rfl rfl rfl aw_471 ac_471 (af_HC ah_411 (by decide) af_HN)
def ag_472 : af_G := ((11, 3, (some .boolean), mc_282), aw_Sh, [ak_411], 3, ak_472.2.2.2.1, ak_472.2.2.2.2, [(18, (3, [(0, .inr (.inl 61)), (1, .inl (0, [0])), (2, .inl (0, []))], [], [((61, 0), (0, [])), ((63, 0), (0, [1])), ((63, 4), (0, [2]))], ([(0, 1, 1), (1, 0, 10), (2, 0, 6)], [], [])), [(2, 0, (0, [])), (2147483647, 1, (0, [])), (0, 0, (0, []))]),
  (18, (3, [(0, .inr (.inl 61)), (1, .inl (0, [0])), (2, .inl (1, []))], [], [((61, 0), (0, [])), ((63, 0), (0, [1])), ((63, 4), (0, [2])), ((76, 411), (0, [1]))], ([(0, 1, 1), (1, 0, 10), (2, 0, 6)], [], [])), [(2, 0, (0, [])), (2147483647, 1, (1, [])), (0, 0, (0, []))]),
  (18, (3, [(0, .inr (.inl 61)), (1, .inl (0, [0])), (2, .inl (2, []))], [], [((61, 0), (0, [])), ((63, 0), (0, [1])), ((63, 4), (0, [2])), ((76, 411), (0, [1]))], ([(0, 1, 1), (1, 0, 10), (2, 0, 6)], [], [])), [(2, 0, (0, [])), (2147483647, 1, (2, [])), (0, 0, (0, []))]),
  (18, (3, [(0, .inr (.inl 61)), (1, .inl (0, [0])), (2, .inl (3, []))], [], [((61, 0), (0, [])), ((63, 0), (0, [1])), ((63, 4), (0, [2])), ((76, 411), (0, [1]))], ([(0, 1, 1), (1, 0, 10), (2, 0, 6)], [], [])), [(2, 0, (0, [])), (2147483647, 1, (3, [])), (0, 0, (0, []))]),
  (18, (3, [(0, .inr (.inl 61)), (1, .inl (0, [0])), (2, .inl (4, []))], [], [((61, 0), (0, [])), ((63, 0), (0, [1])), ((63, 4), (0, [2])), ((76, 411), (0, [1]))], ([(0, 1, 1), (1, 0, 10), (2, 0, 6)], [], [])), [(2, 0, (0, [])), (2147483647, 1, (4, [])), (0, 0, (0, []))]),
  (18, (4, [(0, .inr (.inl 61)), (1, .inl (0, [0])), (2, .inl (0, [3]))], [], [((61, 0), (0, [])), ((63, 0), (0, [1])), ((63, 4), (0, [2])), ((76, 411), (0, [1])), ((76, 415), (0, [2]))], ([(3, 5, 411), (0, 1, 1), (1, 0, 10), (2, 0, 6)], [], [])), [(2, 0, (0, [])), (2147483647, 1, (0, [3])), (0, 0, (0, []))]),
  (51, (4, [(0, .inr (.inl 61)), (1, .inl (0, [0])), (2, .inl (0, [3]))], [], [((61, 0), (0, [])), ((63, 0), (0, [1])), ((63, 4), (0, [2])), ((76, 411), (0, [1])), ((76, 415), (0, [2]))], ([(3, 0, 27), (0, 1, 1), (1, 0, 10), (2, 0, 6)], [], [])), [(1, 0, (0, [])), (2147483647, 1, (0, [3])), (0, 0, (0, []))])], [(63, 1, 4), (63, 5, 411), (76, 1, 4), (76, 5, 411), (76, 412, 415), (76, 416, 822)], [])
set_option maxRecDepth 1000000 in
theorem ac_472 : af_meth 23 ag_472 ak_472.2.2.1 = true := by decide +kernel
theorem aw_472 : af_wfK ak_472.2.1 ak_472.2.2.1 ak_472.2.2.2.2 ag_472.2.2.2.2.2.2.1 = true := by decide +kernel
theorem ah_472 : af_Holds aw_Sh 2 ak_472 := af_soundG (G := ag_472) (K := ak_472) (d := 1) pz_282 rfl rfl rfl rfl aw_472 ac_472 (af_HC ah_411 (by decide) af_HN)
def ag_473 : af_G := ((11, 3, (some .boolean), mc_282), aw_Sh, [ak_411], 3, ak_473.2.2.2.1, ak_473.2.2.2.2, [], [(63, 1, 4), (63, 5, 411), (76, 1, 4), (76, 5, 411), (76, 412, 415), (76, 416, 822)], [])
set_option maxRecDepth 1000000 in
theorem ac_473 : af_meth 16 ag_473 ak_473.2.2.1 = true := by decide +kernel
theorem aw_473 : af_wfK ak_473.2.1 ak_473.2.2.1 ak_473.2.2.2.2 ag_473.2.2.2.2.2.2.1 = true := by decide +kernel
theorem ah_473 : af_Holds aw_Sh 2 ak_473 := af_soundG (G := ag_473) (K := ak_473) (d := 1) pz_282 rfl rfl rfl rfl aw_473 ac_473 (af_HC ah_411 (by decide) af_HN)
def ag_474 : af_G := ((11, 3, (some .boolean), mc_282), aw_Sh, [ak_411], 3, ak_474.2.2.2.1, ak_474.2.2.2.2, [], [(63, 1, 4), (63, 5, 411), (76, 1, 4), (76, 5, 411), (76, 412, 415), (76, 416, 822)], [])
set_option maxRecDepth 1000000 in
theorem ac_474 : af_meth 16 ag_474 ak_474.2.2.1 = true := by decide +kernel
theorem aw_474 : af_wfK ak_474.2.1 ak_474.2.2.1 ak_474.2.2.2.2 ag_474.2.2.2.2.2.2.1 = true := by decide +kernel
theorem ah_474 : af_Holds aw_Sh 2 ak_474 := af_soundG (G := ag_474) (K := ak_474) (d := 1) pz_282 rfl rfl rfl rfl aw_474 ac_474 (af_HC ah_411 (by decide) af_HN)
def ag_475 : af_G := ((11, 3, (some .boolean), mc_283), aw_Sh, [ak_411], 5, ak_475.2.2.2.1, ak_475.2.2.2.2, [(27, (6, [(0, .inr (.inl 61)), (1, .inl (0, [0])), (2, .inl (0, []))], [], [((61, 0), (0, [])), ((76, 0), (0, [1])), ((76, 4), (0, [2])), ((76, 411), (0, [3])), ((76, 415), (0, [4])), ((78, 0), (0, [5]))], ([(5, 1, 1), (0, 0, 0), (1, 0, 10), (2, 0, 6), (3, 0, 10), (4, 0, 6)], [], [])), [(2, 0, (0, [])), (2147483647, 1, (0, [])), (0, 0, (0, []))]),
  (27, (6, [(0, .inr (.inl 61)), (1, .inl (0, [0])), (2, .inl (1, []))], [], [((61, 0), (0, [])), ((63, 0), (0, [1])), ((76, 0), (0, [1])), ((76, 4), (0, [2])), ((76, 411), (0, [3])), ((76, 415), (0, [4])), ((78, 0), (0, [5]))], ([(5, 1, 1), (0, 0, 0), (1, 0, 10), (2, 0, 6), (3, 0, 10), (4, 0, 6)], [], [])), [(2, 0, (0, [])), (2147483647, 1, (1, [])), (0, 0, (0, []))]),
  (27, (6, [(0, .inr (.inl 61)), (1, .inl (0, [0])), (2, .inl (2, []))], [], [((61, 0), (0, [])), ((63, 0), (0, [1])), ((76, 0), (0, [1])), ((76, 4), (0, [2])), ((76, 411), (0, [3])), ((76, 415), (0, [4])), ((78, 0), (0, [5]))], ([(5, 1, 1), (0, 0, 0), (1, 0, 10), (2, 0, 6), (3, 0, 10), (4, 0, 6)], [], [])), [(2, 0, (0, [])), (2147483647, 1, (2, [])), (0, 0, (0, []))]),
  (27, (6, [(0, .inr (.inl 61)), (1, .inl (0, [0])), (2, .inl (3, []))], [], [((61, 0), (0, [])), ((63, 0), (0, [1])), ((76, 0), (0, [1])), ((76, 4), (0, [2])), ((76, 411), (0, [3])), ((76, 415), (0, [4])), ((78, 0), (0, [5]))], ([(5, 1, 1), (0, 0, 0), (1, 0, 10), (2, 0, 6), (3, 0, 10), (4, 0, 6)], [], [])), [(2, 0, (0, [])), (2147483647, 1, (3, [])), (0, 0, (0, []))]),
  (27, (6, [(0, .inr (.inl 61)), (1, .inl (0, [0])), (2, .inl (4, []))], [], [((61, 0), (0, [])), ((63, 0), (0, [1])), ((76, 0), (0, [1])), ((76, 4), (0, [2])), ((76, 411), (0, [3])), ((76, 415), (0, [4])), ((78, 0), (0, [5]))], ([(5, 1, 1), (0, 0, 0), (1, 0, 10), (2, 0, 6), (3, 0, 10), (4, 0, 6)], [], [])), [(2, 0, (0, [])), (2147483647, 1, (4, [])), (0, 0, (0, []))]),
  (27, (7, [(0, .inr (.inl 61)), (1, .inl (0, [0])), (2, .inl (0, [5]))], [], [((61, 0), (0, [])), ((63, 0), (0, [1])), ((63, 4), (0, [2])), ((76, 0), (0, [1])), ((76, 4), (0, [2])), ((76, 411), (0, [3])), ((76, 415), (0, [4])), ((78, 0), (0, [6]))], ([(5, 5, 411), (6, 1, 1), (0, 0, 0), (1, 0, 10), (2, 0, 6), (3, 0, 10), (4, 0, 6)], [], [])), [(2, 0, (0, [])), (2147483647, 1, (0, [5])), (0, 0, (0, []))]),
  (60, (7, [(0, .inr (.inl 61)), (1, .inl (0, [0])), (2, .inl (0, [5]))], [], [((61, 0), (0, [])), ((63, 0), (0, [1])), ((63, 4), (0, [2])), ((76, 0), (0, [1])), ((76, 4), (0, [2])), ((76, 411), (0, [3])), ((76, 415), (0, [4])), ((78, 0), (0, [6]))], ([(5, 0, 27), (6, 1, 1), (0, 0, 0), (1, 0, 10), (2, 0, 6), (3, 0, 10), (4, 0, 6)], [], [])), [(1, 0, (0, [])), (2147483647, 1, (0, [5])), (0, 0, (0, []))])], [(63, 1, 4), (63, 5, 411), (76, 1, 4), (76, 5, 411), (76, 412, 415), (76, 416, 822)], [])
set_option maxRecDepth 1000000 in
theorem ac_475 : af_meth 23 ag_475 ak_475.2.2.1 = true := by decide +kernel
theorem aw_475 : af_wfK ak_475.2.1 ak_475.2.2.1 ak_475.2.2.2.2 ag_475.2.2.2.2.2.2.1 = true := by decide +kernel
theorem ah_475 : af_Holds aw_Sh 2 ak_475 := af_soundG (G := ag_475) (K := ak_475) (d := 1) pz_283 rfl rfl rfl rfl aw_475 ac_475 (af_HC ah_411 (by decide) af_HN)
def ag_476 : af_G := ((11, 3, (some .boolean), mc_283), aw_Sh, [ak_411], 5, ak_476.2.2.2.1, ak_476.2.2.2.2, [(27, (6, [(0, .inr (.inl 61)), (1, .inl (0, [0])), (2, .inl (0, []))], [], [((61, 0), (0, [])), ((76, 0), (0, [1])), ((76, 4), (0, [2])), ((76, 411), (0, [3])), ((76, 415), (0, [4])), ((78, 1), (0, [5]))], ([(5, 1, 1), (0, 1, 1), (1, 0, 10), (2, 0, 6), (3, 0, 10), (4, 0, 6)], [], [])), [(2, 0, (0, [])), (2147483647, 1, (0, [])), (0, 0, (0, []))]),
  (27, (6, [(0, .inr (.inl 61)), (1, .inl (0, [0])), (2, .inl (1, []))], [], [((61, 0), (0, [])), ((63, 0), (0, [3])), ((76, 0), (0, [1])), ((76, 4), (0, [2])), ((76, 411), (0, [3])), ((76, 415), (0, [4])), ((78, 1), (0, [5]))], ([(5, 1, 1), (0, 1, 1), (1, 0, 10), (2, 0, 6), (3, 0, 10), (4, 0, 6)], [], [])), [(2, 0, (0, [])), (2147483647, 1, (1, [])), (0, 0, (0, []))]),
  (27, (6, [(0, .inr (.inl 61)), (1, .inl (0, [0])), (2, .inl (2, []))], [], [((61, 0), (0, [])), ((63, 0), (0, [3])), ((76, 0), (0, [1])), ((76, 4), (0, [2])), ((76, 411), (0, [3])), ((76, 415), (0, [4])), ((78, 1), (0, [5]))], ([(5, 1, 1), (0, 1, 1), (1, 0, 10), (2, 0, 6), (3, 0, 10), (4, 0, 6)], [], [])), [(2, 0, (0, [])), (2147483647, 1, (2, [])), (0, 0, (0, []))]),
  (27, (6, [(0, .inr (.inl 61)), (1, .inl (0, [0])), (2, .inl (3, []))], [], [((61, 0), (0, [])), ((63, 0), (0, [3])), ((76, 0), (0, [1])), ((76, 4), (0, [2])), ((76, 411), (0, [3])), ((76, 415), (0, [4])), ((78, 1), (0, [5]))], ([(5, 1, 1), (0, 1, 1), (1, 0, 10), (2, 0, 6), (3, 0, 10), (4, 0, 6)], [], [])), [(2, 0, (0, [])), (2147483647, 1, (3, [])), (0, 0, (0, []))]),
  (27, (6, [(0, .inr (.inl 61)), (1, .inl (0, [0])), (2, .inl (4, []))], [], [((61, 0), (0, [])), ((63, 0), (0, [3])), ((76, 0), (0, [1])), ((76, 4), (0, [2])), ((76, 411), (0, [3])), ((76, 415), (0, [4])), ((78, 1), (0, [5]))], ([(5, 1, 1), (0, 1, 1), (1, 0, 10), (2, 0, 6), (3, 0, 10), (4, 0, 6)], [], [])), [(2, 0, (0, [])), (2147483647, 1, (4, [])), (0, 0, (0, []))]),
  (27, (7, [(0, .inr (.inl 61)), (1, .inl (0, [0])), (2, .inl (0, [5]))], [], [((61, 0), (0, [])), ((63, 0), (0, [3])), ((63, 4), (0, [4])), ((76, 0), (0, [1])), ((76, 4), (0, [2])), ((76, 411), (0, [3])), ((76, 415), (0, [4])), ((78, 1), (0, [6]))], ([(5, 5, 411), (6, 1, 1), (0, 1, 1), (1, 0, 10), (2, 0, 6), (3, 0, 10), (4, 0, 6)], [], [])), [(2, 0, (0, [])), (2147483647, 1, (0, [5])), (0, 0, (0, []))]),
  (60, (7, [(0, .inr (.inl 61)), (1, .inl (0, [0])), (2, .inl (0, [5]))], [], [((61, 0), (0, [])), ((63, 0), (0, [3])), ((63, 4), (0, [4])), ((76, 0), (0, [1])), ((76, 4), (0, [2])), ((76, 411), (0, [3])), ((76, 415), (0, [4])), ((78, 1), (0, [6]))], ([(5, 0, 27), (6, 1, 1), (0, 1, 1), (1, 0, 10), (2, 0, 6), (3, 0, 10), (4, 0, 6)], [], [])), [(1, 0, (0, [])), (2147483647, 1, (0, [5])), (0, 0, (0, []))])], [(63, 1, 4), (63, 5, 411), (76, 1, 4), (76, 5, 411), (76, 412, 415), (76, 416, 822)], [])
set_option maxRecDepth 1000000 in
theorem ac_476 : af_meth 23 ag_476 ak_476.2.2.1 = true := by decide +kernel
theorem aw_476 : af_wfK ak_476.2.1 ak_476.2.2.1 ak_476.2.2.2.2 ag_476.2.2.2.2.2.2.1 = true := by decide +kernel
theorem ah_476 : af_Holds aw_Sh 2 ak_476 := af_soundG (G := ag_476) (K := ak_476) (d := 1) pz_283 rfl rfl rfl rfl aw_476 ac_476 (af_HC ah_411 (by decide) af_HN)
def ag_477 : af_G := ((11, 3, (some .boolean), mc_283), aw_Sh, [ak_411], 5, ak_477.2.2.2.1, ak_477.2.2.2.2, [], [(63, 1, 4), (63, 5, 411), (76, 1, 4), (76, 5, 411), (76, 412, 415), (76, 416, 822)], [])
set_option maxRecDepth 1000000 in
theorem ac_477 : af_meth 16 ag_477 ak_477.2.2.1 = true := by decide +kernel
theorem aw_477 : af_wfK ak_477.2.1 ak_477.2.2.1 ak_477.2.2.2.2 ag_477.2.2.2.2.2.2.1 = true := by decide +kernel
theorem ah_477 : af_Holds aw_Sh 2 ak_477 := af_soundG (G := ag_477) (K := ak_477) (d := 1) pz_283 rfl rfl rfl rfl aw_477 ac_477 (af_HC ah_411 (by decide) af_HN)
def ag_478 : af_G := ((11, 3, (some .boolean), mc_283), aw_Sh, [ak_411], 5, ak_478.2.2.2.1, ak_478.2.2.2.2, [], [(63, 1, 4), (63, 5, 411), (76, 1, 4), (76, 5, 411), (76, 412, 415), (76, 416, 822)], [])
set_option maxRecDepth 1000000 in
theorem ac_478 : af_meth 16 ag_478 ak_478.2.2.1 = true := by decide +kernel
theorem aw_478 : af_wfK ak_478.2.1 ak_478.2.2.1 ak_478.2.2.2.2 ag_478.2.2.2.2.2.2.1 = true := by decide +kernel
theorem ah_478 : af_Holds aw_Sh 2 ak_478 := af_soundG (G := ag_478) (K := ak_478) (d := 1) pz_283 rfl rfl rfl rfl aw_478 ac_478 (af_HC ah_411 (by decide) af_HN)
def ag_479 : af_G := ((11, 3, (some .boolean), mc_167), aw_Sh, [], 1, ak_479.2.2.2.1, ak_479.2.2.2.2, [], [], [])
set_option maxRecDepth 1000000 in
theorem ac_479 : af_meth 15 ag_479 ak_479.2.2.1 = true := by decide +kernel
theorem aw_479 : af_wfK ak_479.2.1 ak_479.2.2.1 ak_479.2.2.2.2 ag_479.2.2.2.2.2.2.1 = true := by decide +kernel
theorem ah_479 : af_Holds aw_Sh 1 ak_479 := af_soundG (G := ag_479) (K := ak_479) (d := 0) pz_167 rfl rfl rfl rfl aw_479 ac_479 af_HN
