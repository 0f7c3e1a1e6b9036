/-! the checks; by program -/
def ag_0 : af_G := ((9, 3, none, mc_95), aw_Sh, [], 1, ak_0.2.2.2.1, ak_0.2.2.2.2, [(3, (2, [(0, .inr (.inl 1)), (1, .inl (0, [0])), (2, .inl (0, [1]))], [], [], ([(1, (-8), 24), (0, (-2147483648), 2147483647)], [], [])), [(1, 0, (0, [])), (2147483648, 2, (0, [1])), (0, 0, (0, []))])], [], [])
set_option maxRecDepth 1000000 in
theorem ac_0 : af_meth 34 ag_0 ak_0.2.2.1 = true := by decide +kernel
theorem aw_0 : af_wfK ak_0.2.1 ak_0.2.2.1 ak_0.2.2.2.2 ag_0.2.2.2.2.2.2.1 = true := by decide +kernel
theorem ah_0 : af_Holds aw_Sh 1 ak_0 := af_soundG (G := ag_0) (K := ak_0) (d := 0) pz_95 rfl rfl rfl rfl aw_0 ac_0 af_HN
def ag_1 : af_G := ((10, 6, (some .int), mc_111), aw_Sh, [ak_0], 5, ak_1.2.2.2.1, ak_1.2.2.2.2, [], [], [])
set_option maxRecDepth 1000000 in
theorem ac_1 : af_meth 37 ag_1 ak_1.2.2.1 = true := by decide +kernel
theorem aw_1 : af_wfK ak_1.2.1 ak_1.2.2.1 ak_1.2.2.2.2 ag_1.2.2.2.2.2.2.1 = true := by decide +kernel
theorem ah_1 : af_Holds aw_Sh 2 ak_1 := af_soundG (G := ag_1) (K := ak_1) (d := 1) pz_111 rfl rfl rfl rfl aw_1 ac_1 (af_HC ah_0 (by decide) af_HN)
def ag_2 : af_G := ((10, 2, (some .boolean), mc_112), aw_Sh, [], 1, ak_2.2.2.2.1, ak_2.2.2.2.2, [], [], [])
set_option maxRecDepth 1000000 in
theorem ac_2 : af_meth 19 ag_2 ak_2.2.2.1 = true := by decide +kernel
theorem aw_2 : af_wfK ak_2.2.1 ak_2.2.2.1 ak_2.2.2.2.2 ag_2.2.2.2.2.2.2.1 = true := by decide +kernel
theorem ah_2 : af_Holds aw_Sh 1 ak_2 := af_soundG (G := ag_2) (K := ak_2) (d := 0) pz_112 rfl rfl rfl rfl aw_2 ac_2 af_HN
def ag_3 : af_G := ((2, 2, none, mc_10), aw_Sh, [], 0, ak_3.2.2.2.1, ak_3.2.2.2.2, [(2, (1, [(0, .inr (.inl 7)), (1, .inl (0, [0]))], [], [], ([(0, 0, 170)], [], [])), [(1, 0, (0, [])), (2147483647, 1, (0, [0])), (0, 0, (0, []))])], [], [])
set_option maxRecDepth 1000000 in
theorem ac_3 : af_meth 18 ag_3 ak_3.2.2.1 = true := by decide +kernel
theorem aw_3 : af_wfK ak_3.2.1 ak_3.2.2.1 ak_3.2.2.2.2 ag_3.2.2.2.2.2.2.1 = true := by decide +kernel
theorem ah_3 : af_Holds aw_Sh 1 ak_3 := af_soundG (G := ag_3) (K := ak_3) (d := 0) pz_10 rfl rfl rfl rfl aw_3 ac_3 af_HN
def ag_4 : af_G := ((9, 2, (some .int), mc_96), aw_Sh, [], 1, ak_4.2.2.2.1, ak_4.2.2.2.2, [], [], [])
set_option maxRecDepth 1000000 in
theorem ac_4 : af_meth 21 ag_4 ak_4.2.2.1 = true := by decide +kernel
theorem aw_4 : af_wfK ak_4.2.1 ak_4.2.2.1 ak_4.2.2.2.2 ag_4.2.2.2.2.2.2.1 = true := by decide +kernel
theorem ah_4 : af_Holds aw_Sh 1 ak_4 := af_soundG (G := ag_4) (K := ak_4) (d := 0) pz_96 rfl rfl rfl rfl aw_4 ac_4 af_HN
def ag_5 : af_G := ((9, 1, (some .boolean), mc_101), aw_Sh, [], 1, ak_5.2.2.2.1, ak_5.2.2.2.2, [], [], [])
set_option maxRecDepth 1000000 in
theorem ac_5 : af_meth 15 ag_5 ak_5.2.2.1 = true := by decide +kernel
theorem aw_5 : af_wfK ak_5.2.1 ak_5.2.2.1 ak_5.2.2.2.2 ag_5.2.2.2.2.2.2.1 = true := by decide +kernel
theorem ah_5 : af_Holds aw_Sh 1 ak_5 := af_soundG (G := ag_5) (K := ak_5) (d := 0) pz_101 rfl rfl rfl rfl aw_5 ac_5 af_HN
def ag_6 : af_G := ((9, 1, (some .boolean), mc_102), aw_Sh, [], 1, ak_6.2.2.2.1, ak_6.2.2.2.2, [], [], [])
set_option maxRecDepth 1000000 in
theorem ac_6 : af_meth 15 ag_6 ak_6.2.2.1 = true := by decide +kernel
theorem aw_6 : af_wfK ak_6.2.1 ak_6.2.2.1 ak_6.2.2.2.2 ag_6.2.2.2.2.2.2.1 = true := by decide +kernel
theorem ah_6 : af_Holds aw_Sh 1 ak_6 := af_soundG (G := ag_6) (K := ak_6) (d := 0) pz_102 rfl rfl rfl rfl aw_6 ac_6 af_HN
def ag_7 : af_G := ((9, 4, (some .int), mc_100), aw_Sh, [], 0, ak_7.2.2.2.1, ak_7.2.2.2.2, [(2, (1, [(0, .inr (.inl 1)), (1, .inr (.inr ())), (3, .inl (0, [0]))], [], [], ([(0, 0, 29)], [], [])), [(1, 0, (0, [])), (2147483647, 1, (0, [0])), (0, 0, (0, []))])], [], [])
set_option maxRecDepth 1000000 in
theorem ac_7 : af_meth 20 ag_7 ak_7.2.2.1 = true := by decide +kernel
theorem aw_7 : af_wfK ak_7.2.1 ak_7.2.2.1 ak_7.2.2.2.2 ag_7.2.2.2.2.2.2.1 = true := by decide +kernel
theorem ah_7 : af_Holds aw_Sh 1 ak_7 := af_soundG (G := ag_7) (K := ak_7) (d := 0) pz_100 rfl rfl rfl rfl aw_7 ac_7 af_HN
def ag_8 : af_G := ((9, 6, none, mc_99), aw_Sh, [ak_4, ak_7, ak_5, ak_6], 1, ak_8.2.2.2.1, ak_8.2.2.2.2, [(7, (4, [(0, .inr (.inl 1)), (1, .inl (0, [0])), (2, .inl (0, [1])), (3, .inl (0, [2])), (4, .inl (0, [3]))], [], [], ([(1, (-2147483648), 2147483647), (2, (-2147483648), 2147483647), (3, (-2147483648), 2147483647), (0, (-2147483648), 2147483647)], [], [])), [(1, 0, (0, [])), (2147483647, 1, (0, [3])), (0, 0, (0, []))])], [], [])
set_option maxRecDepth 1000000 in
theorem ac_8 : af_meth 44 ag_8 ak_8.2.2.1 = true := by decide +kernel
theorem aw_8 : af_wfK ak_8.2.1 ak_8.2.2.1 ak_8.2.2.2.2 ag_8.2.2.2.2.2.2.1 = true := by decide +kernel
theorem ah_8 : af_Holds aw_Sh 2 ak_8 := af_soundG (G := ag_8) (K := ak_8) (d := 1) pz_99 rfl rfl rfl rfl aw_8 ac_8 (af_HC ah_4 (by decide) (af_HC ah_7 (by decide) (af_HC ah_5 (by decide) (af_HC ah_6 (by decide) af_HN))))
def ag_9 : af_G := ((9, 3, none, mc_98), aw_Sh, [ak_4, ak_8, ak_5, ak_6], 0, ak_9.2.2.2.1, ak_9.2.2.2.2, [(5, (1, [(0, .inr (.inl 1)), (1, .inl (0, [0]))], [], [], ([(0, (-2147483648), 2147483647)], [], [])), [(1, 0, (0, [])), (2147483647, 1, (0, [0])), (0, 0, (0, []))])], [], [])
set_option maxRecDepth 1000000 in
theorem ac_9 : af_meth 81 ag_9 ak_9.2.2.1 = true := by decide +kernel
theorem aw_9 : af_wfK ak_9.2.1 ak_9.2.2.1 ak_9.2.2.2.2 ag_9.2.2.2.2.2.2.1 = true := by decide +kernel
theorem ah_9 : af_Holds aw_Sh 3 ak_9 := af_soundG (G := ag_9) (K := ak_9) (d := 2) pz_98 rfl rfl rfl rfl aw_9 ac_9 (af_HC ah_4 (by decide) (af_HC ah_8 (by decide) (af_HC ah_5 (by decide) (af_HC ah_6 (by decide) af_HN))))
def ag_10 : af_G := ((9, 2, none, mc_97), aw_Sh, [ak_9], 1, ak_10.2.2.2.1, ak_10.2.2.2.2, [], [], [])
set_option maxRecDepth 1000000 in
theorem ac_10 : af_meth 21 ag_10 ak_10.2.2.1 = true := by decide +kernel
theorem aw_10 : af_wfK ak_10.2.1 ak_10.2.2.1 ak_10.2.2.2.2 ag_10.2.2.2.2.2.2.1 = true := by decide +kernel
theorem ah_10 : af_Holds aw_Sh 4 ak_10 := af_soundG (G := ag_10) (K := ak_10) (d := 3) pz_97 rfl rfl rfl rfl aw_10 ac_10 (af_HC ah_9 (by decide) af_HN)
def ag_11 : af_G := ((9, 2, (some .boolean), mc_103), aw_Sh, [], 1, ak_11.2.2.2.1, ak_11.2.2.2.2, [], [], [])
set_option maxRecDepth 1000000 in
theorem ac_11 : af_meth 15 ag_11 ak_11.2.2.1 = true := by decide +kernel
theorem aw_11 : af_wfK ak_11.2.1 ak_11.2.2.1 ak_11.2.2.2.2 ag_11.2.2.2.2.2.2.1 = true := by decide +kernel
theorem ah_11 : af_Holds aw_Sh 1 ak_11 := af_soundG (G := ag_11) (K := ak_11) (d := 0) pz_103 rfl rfl rfl rfl aw_11 ac_11 af_HN
def ag_12 : af_G := ((9, 1, (some .boolean), mc_107), aw_Sh, [], 0, ak_12.2.2.2.1, ak_12.2.2.2.2, [], [], [])
set_option maxRecDepth 1000000 in
theorem ac_12 : af_meth 17 ag_12 ak_12.2.2.1 = true := by decide +kernel
theorem aw_12 : af_wfK ak_12.2.1 ak_12.2.2.1 ak_12.2.2.2.2 ag_12.2.2.2.2.2.2.1 = true := by decide +kernel
theorem ah_12 : af_Holds aw_Sh 1 ak_12 := af_soundG (G := ag_12) (K := ak_12) (d := 0) pz_107 rfl rfl rfl rfl aw_12 ac_12 af_HN
def ag_13 : af_G := ((10, 2, (some .int), mc_159), aw_Sh, [], 1, ak_13.2.2.2.1, ak_13.2.2.2.2, [], [], [])
set_option maxRecDepth 1000000 in
theorem ac_13 : af_meth 17 ag_13 ak_13.2.2.1 = true := by decide +kernel
theorem aw_13 : af_wfK ak_13.2.1 ak_13.2.2.1 ak_13.2.2.2.2 ag_13.2.2.2.2.2.2.1 = true := by decide +kernel
theorem ah_13 : af_Holds aw_Sh 1 ak_13 := af_soundG (G := ag_13) (K := ak_13) (d := 0) pz_159 rfl rfl rfl rfl aw_13 ac_13 af_HN
def ag_14 : af_G := ((10, 2, (some .int), mc_159), aw_Sh, [], 0, ak_14.2.2.2.1, ak_14.2.2.2.2, [], [], [])
set_option maxRecDepth 1000000 in
theorem ac_14 : af_meth 17 ag_14 ak_14.2.2.1 = true := by decide +kernel
theorem aw_14 : af_wfK ak_14.2.1 ak_14.2.2.1 ak_14.2.2.2.2 ag_14.2.2.2.2.2.2.1 = true := by decide +kernel
theorem ah_14 : af_Holds aw_Sh 1 ak_14 := af_soundG (G := ag_14) (K := ak_14) (d := 0) pz_159 rfl rfl rfl rfl aw_14 ac_14 af_HN
def ag_15 : af_G := ((10, 2, (some .int), mc_159), aw_Sh, [], 1, ak_15.2.2.2.1, ak_15.2.2.2.2, [], [], [])
set_option maxRecDepth 1000000 in
theorem ac_15 : af_meth 17 ag_15 ak_15.2.2.1 = true := by decide +kernel
theorem aw_15 : af_wfK ak_15.2.1 ak_15.2.2.1 ak_15.2.2.2.2 ag_15.2.2.2.2.2.2.1 = true := by decide +kernel
theorem ah_15 : af_Holds aw_Sh 1 ak_15 := af_soundG (G := ag_15) (K := ak_15) (d := 0) pz_159 rfl rfl rfl rfl aw_15 ac_15 af_HN
def ag_16 : af_G := ((10, 2, (some .int), mc_159), aw_Sh, [], 1, ak_16.2.2.2.1, ak_16.2.2.2.2, [], [], [])
set_option maxRecDepth 1000000 in
theorem ac_16 : af_meth 17 ag_16 ak_16.2.2.1 = true := by decide +kernel
theorem aw_16 : af_wfK ak_16.2.1 ak_16.2.2.1 ak_16.2.2.2.2 ag_16.2.2.2.2.2.2.1 = true := by decide +kernel
theorem ah_16 : af_Holds aw_Sh 1 ak_16 := af_soundG (G := ag_16) (K := ak_16) (d := 0) pz_159 rfl rfl rfl rfl aw_16 ac_16 af_HN
def ag_17 : af_G := ((10, 2, (some .int), mc_159), aw_Sh, [], 1, ak_17.2.2.2.1, ak_17.2.2.2.2, [], [], [])
set_option maxRecDepth 1000000 in
theorem ac_17 : af_meth 17 ag_17 ak_17.2.2.1 = true := by decide +kernel
theorem aw_17 : af_wfK ak_17.2.1 ak_17.2.2.1 ak_17.2.2.2.2 ag_17.2.2.2.2.2.2.1 = true := by decide +kernel
theorem ah_17 : af_Holds aw_Sh 1 ak_17 := af_soundG (G := ag_17) (K := ak_17) (d := 0) pz_159 rfl rfl rfl rfl aw_17 ac_17 af_HN
def ag_18 : af_G := ((10, 2, (some .int), mc_159), aw_Sh, [], 1, ak_18.2.2.2.1, ak_18.2.2.2.2, [], [], [])
set_option maxRecDepth 1000000 in
theorem ac_18 : af_meth 17 ag_18 ak_18.2.2.1 = true := by decide +kernel
theorem aw_18 : af_wfK ak_18.2.1 ak_18.2.2.1 ak_18.2.2.2.2 ag_18.2.2.2.2.2.2.1 = true := by decide +kernel
theorem ah_18 : af_Holds aw_Sh 1 ak_18 := af_soundG (G := ag_18) (K := ak_18) (d := 0) pz_159 rfl rfl rfl rfl aw_18 ac_18 af_HN
def ag_19 : af_G := ((10, 2, (some .int), mc_159), aw_Sh, [], 1, ak_19.2.2.2.1, ak_19.2.2.2.2, [], [], [])
set_option maxRecDepth 1000000 in
theorem ac_19 : af_meth 17 ag_19 ak_19.2.2.1 = true := by decide +kernel
theorem aw_19 : af_wfK ak_19.2.1 ak_19.2.2.1 ak_19.2.2.2.2 ag_19.2.2.2.2.2.2.1 = true := by decide +kernel
theorem ah_19 : af_Holds aw_Sh 1 ak_19 := af_soundG (G := ag_19) (K := ak_19) (d := 0) pz_159 rfl rfl rfl rfl aw_19 ac_19 af_HN
def ag_20 : af_G := ((2, 5, (some .int), mc_13), aw_Sh, [ak_14, ak_16, ak_17, ak_15, ak_18, ak_19, ak_13], 1, ak_20.2.2.2.1, ak_20.2.2.2.2, [(3, (2, [(0, .inr (.inl 7)), (1, .inr (.inr ())), (3, .inl (0, [0])), (4, .inl (0, [1]))], [], [], ([(1, 0, 27), (0, (-2147483648), 2147483647)], [], [])), [(1, 0, (0, [])), (2147483647, 1, (0, [1])), (0, 0, (0, []))])], [], [])
set_option maxRecDepth 1000000 in
theorem ac_20 : af_meth 39 ag_20 ak_20.2.2.1 = true := by decide +kernel
theorem aw_20 : af_wfK ak_20.2.1 ak_20.2.2.1 ak_20.2.2.2.2 ag_20.2.2.2.2.2.2.1 = true := by decide +kernel
theorem ah_20 : af_Holds aw_Sh 2 ak_20 := af_soundG (G := ag_20) (K := ak_20) (d := 1) pz_13 rfl rfl rfl rfl aw_20 ac_20 (af_HC ah_14 (by decide) (af_HC ah_16 (by decide) (af_HC ah_17 (by decide) (af_HC ah_15 (by decide) (af_HC ah_18 (by decide) (af_HC ah_19 (by decide) (af_HC ah_13 (by decide) af_HN)))))))
def ag_21 : af_G := ((9, 4, (some .int), mc_108), aw_Sh, [ak_20, ak_11, ak_12], 1, ak_21.2.2.2.1, ak_21.2.2.2.2, [], [], [])
set_option maxRecDepth 1000000 in
theorem ac_21 : af_meth 24 ag_21 ak_21.2.2.1 = true := by decide +kernel
theorem aw_21 : af_wfK ak_21.2.1 ak_21.2.2.1 ak_21.2.2.2.2 ag_21.2.2.2.2.2.2.1 = true := by decide +kernel
theorem ah_21 : af_Holds aw_Sh 3 ak_21 := af_soundG (G := ag_21) (K := ak_21) (d := 2) pz_108 rfl rfl rfl rfl aw_21 ac_21 (af_HC ah_20 (by decide) (af_HC ah_11 (by decide) (af_HC ah_12 (by decide) af_HN)))
def ag_22 : af_G := ((9, 4, (some .int), mc_109), aw_Sh, [ak_9, ak_21], 1, ak_22.2.2.2.1, ak_22.2.2.2.2, [], [], [])
set_option maxRecDepth 1000000 in
theorem ac_22 : af_meth 18 ag_22 ak_22.2.2.1 = true := by decide +kernel
theorem aw_22 : af_wfK ak_22.2.1 ak_22.2.2.1 ak_22.2.2.2.2 ag_22.2.2.2.2.2.2.1 = true := by decide +kernel
theorem ah_22 : af_Holds aw_Sh 4 ak_22 := af_soundG (G := ag_22) (K := ak_22) (d := 3) pz_109 rfl rfl rfl rfl aw_22 ac_22 (af_HC ah_9 (by decide) (af_HC ah_21 (by decide) af_HN))
def ag_23 : af_G := ((10, 2, (some .int), mc_159), aw_Sh, [], 1, ak_23.2.2.2.1, ak_23.2.2.2.2, [], [], [])
set_option maxRecDepth 1000000 in
theorem ac_23 : af_meth 17 ag_23 ak_23.2.2.1 = true := by decide +kernel
theorem aw_23 : af_wfK ak_23.2.1 ak_23.2.2.1 ak_23.2.2.2.2 ag_23.2.2.2.2.2.2.1 = true := by decide +kernel
theorem ah_23 : af_Holds aw_Sh 1 ak_23 := af_soundG (G := ag_23) (K := ak_23) (d := 0) pz_159 rfl rfl rfl rfl aw_23 ac_23 af_HN
def ag_24 : af_G := ((10, 3, none, mc_160), aw_Sh, [], 2, ak_24.2.2.2.1, ak_24.2.2.2.2, [], [], [])
set_option maxRecDepth 1000000 in
theorem ac_24 : af_meth 17 ag_24 ak_24.2.2.1 = true := by decide +kernel
theorem aw_24 : af_wfK ak_24.2.1 ak_24.2.2.1 ak_24.2.2.2.2 ag_24.2.2.2.2.2.2.1 = true := by decide +kernel
theorem ah_24 : af_Holds aw_Sh 1 ak_24 := af_soundG (G := ag_24) (K := ak_24) (d := 0) pz_160 rfl rfl rfl rfl aw_24 ac_24 af_HN
def ag_25 : af_G := ((2, 3, none, mc_15), aw_Sh, [ak_23, ak_24], 2, ak_25.2.2.2.1, ak_25.2.2.2.2, [], [], [])
set_option maxRecDepth 1000000 in
theorem ac_25 : af_meth 17 ag_25 ak_25.2.2.1 = true := by decide +kernel
theorem aw_25 : af_wfK ak_25.2.1 ak_25.2.2.1 ak_25.2.2.2.2 ag_25.2.2.2.2.2.2.1 = true := by decide +kernel
theorem ah_25 : af_Holds aw_Sh 2 ak_25 := af_soundG (G := ag_25) (K := ak_25) (d := 1) pz_15 rfl rfl rfl rfl aw_25 ac_25 (af_HC ah_23 (by decide) (af_HC ah_24 (by decide) af_HN))
def ag_26 : af_G := ((3, 3, (some .boolean), mc_34), aw_Sh, [ak_25, ak_9, ak_11, ak_21, ak_22, ak_23], 0, ak_26.2.2.2.1, ak_26.2.2.2.2, [], [], [])
set_option maxRecDepth 1000000 in
theorem ac_26 : af_meth 53 ag_26 ak_26.2.2.1 = true := by decide +kernel
theorem aw_26 : af_wfK ak_26.2.1 ak_26.2.2.1 ak_26.2.2.2.2 ag_26.2.2.2.2.2.2.1 = true := by decide +kernel
theorem ah_26 : af_Holds aw_Sh 5 ak_26 := af_soundG (G := ag_26) (K := ak_26) (d := 4) pz_34 rfl rfl rfl rfl aw_26 ac_26 (af_HC ah_25 (by decide) (af_HC ah_9 (by decide) (af_HC ah_11 (by decide) (af_HC ah_21 (by decide) (af_HC ah_22 (by decide) (af_HC ah_23 (by decide) af_HN))))))
def ag_27 : af_G := ((10, 2, (some .int), mc_159), aw_Sh, [], 1, ak_27.2.2.2.1, ak_27.2.2.2.2, [], [], [])
set_option maxRecDepth 1000000 in
theorem ac_27 : af_meth 17 ag_27 ak_27.2.2.1 = true := by decide +kernel
theorem aw_27 : af_wfK ak_27.2.1 ak_27.2.2.1 ak_27.2.2.2.2 ag_27.2.2.2.2.2.2.1 = true := by decide +kernel
theorem ah_27 : af_Holds aw_Sh 1 ak_27 := af_soundG (G := ag_27) (K := ak_27) (d := 0) pz_159 rfl rfl rfl rfl aw_27 ac_27 af_HN
def ag_28 : af_G := ((10, 3, none, mc_160), aw_Sh, [], 2, ak_28.2.2.2.1, ak_28.2.2.2.2, [], [], [])
set_option maxRecDepth 1000000 in
theorem ac_28 : af_meth 17 ag_28 ak_28.2.2.1 = true := by decide +kernel
theorem aw_28 : af_wfK ak_28.2.1 ak_28.2.2.1 ak_28.2.2.2.2 ag_28.2.2.2.2.2.2.1 = true := by decide +kernel
theorem ah_28 : af_Holds aw_Sh 1 ak_28 := af_soundG (G := ag_28) (K := ak_28) (d := 0) pz_160 rfl rfl rfl rfl aw_28 ac_28 af_HN
def ag_29 : af_G := ((3, 3, (some .boolean), mc_33), aw_Sh, [ak_9, ak_11, ak_21, ak_27, ak_28], 0, ak_29.2.2.2.1, ak_29.2.2.2.2, [], [], [])
set_option maxRecDepth 1000000 in
theorem ac_29 : af_meth 54 ag_29 ak_29.2.2.1 = true := by decide +kernel
theorem aw_29 : af_wfK ak_29.2.1 ak_29.2.2.1 ak_29.2.2.2.2 ag_29.2.2.2.2.2.2.1 = true := by decide +kernel
theorem ah_29 : af_Holds aw_Sh 4 ak_29 := af_soundG (G := ag_29) (K := ak_29) (d := 3) pz_33 rfl rfl rfl rfl aw_29 ac_29 (af_HC ah_9 (by decide) (af_HC ah_11 (by decide) (af_HC ah_21 (by decide) (af_HC ah_27 (by decide) (af_HC ah_28 (by decide) af_HN)))))
def ag_30 : af_G := ((10, 2, (some .int), mc_159), aw_Sh, [], 1, ak_30.2.2.2.1, ak_30.2.2.2.2, [], [], [])
set_option maxRecDepth 1000000 in
theorem ac_30 : af_meth 17 ag_30 ak_30.2.2.1 = true := by decide +kernel
theorem aw_30 : af_wfK ak_30.2.1 ak_30.2.2.1 ak_30.2.2.2.2 ag_30.2.2.2.2.2.2.1 = true := by decide +kernel
theorem ah_30 : af_Holds aw_Sh 1 ak_30 := af_soundG (G := ag_30) (K := ak_30) (d := 0) pz_159 rfl rfl rfl rfl aw_30 ac_30 af_HN
def ag_31 : af_G := ((10, 3, none, mc_160), aw_Sh, [], 2, ak_31.2.2.2.1, ak_31.2.2.2.2, [], [], [])
set_option maxRecDepth 1000000 in
theorem ac_31 : af_meth 17 ag_31 ak_31.2.2.1 = true := by decide +kernel
theorem aw_31 : af_wfK ak_31.2.1 ak_31.2.2.1 ak_31.2.2.2.2 ag_31.2.2.2.2.2.2.1 = true := by decide +kernel
theorem ah_31 : af_Holds aw_Sh 1 ak_31 := af_soundG (G := ag_31) (K := ak_31) (d := 0) pz_160 rfl rfl rfl rfl aw_31 ac_31 af_HN
def ag_32 : af_G := ((10, 3, none, mc_160), aw_Sh, [], 2, ak_32.2.2.2.1, ak_32.2.2.2.2, [], [], [])
set_option maxRecDepth 1000000 in
theorem ac_32 : af_meth 17 ag_32 ak_32.2.2.1 = true := by decide +kernel
theorem aw_32 : af_wfK ak_32.2.1 ak_32.2.2.1 ak_32.2.2.2.2 ag_32.2.2.2.2.2.2.1 = true := by decide +kernel
theorem ah_32 : af_Holds aw_Sh 1 ak_32 := af_soundG (G := ag_32) (K := ak_32) (d := 0) pz_160 rfl rfl rfl rfl aw_32 ac_32 af_HN
def ag_33 : af_G := ((3, 4, (some .boolean), mc_32), aw_Sh, [ak_9, ak_11, ak_21, ak_30, ak_32, ak_31], 1, ak_33.2.2.2.1, ak_33.2.2.2.2, [], [], [])
set_option maxRecDepth 1000000 in
theorem ac_33 : af_meth 54 ag_33 ak_33.2.2.1 = true := by decide +kernel
theorem aw_33 : af_wfK ak_33.2.1 ak_33.2.2.1 ak_33.2.2.2.2 ag_33.2.2.2.2.2.2.1 = true := by decide +kernel
theorem ah_33 : af_Holds aw_Sh 4 ak_33 := af_soundG (G := ag_33) (K := ak_33) (d := 3) pz_32 rfl rfl rfl rfl aw_33 ac_33 (af_HC ah_9 (by decide) (af_HC ah_11 (by decide) (af_HC ah_21 (by decide) (af_HC ah_30 (by decide) (af_HC ah_32 (by decide) (af_HC ah_31 (by decide) af_HN))))))
def ag_34 : af_G := ((9, 2, (some .boolean), mc_104), aw_Sh, [], 1, ak_34.2.2.2.1, ak_34.2.2.2.2, [], [], [])
set_option maxRecDepth 1000000 in
theorem ac_34 : af_meth 17 ag_34 ak_34.2.2.1 = true := by decide +kernel
theorem aw_34 : af_wfK ak_34.2.1 ak_34.2.2.1 ak_34.2.2.2.2 ag_34.2.2.2.2.2.2.1 = true := by decide +kernel
theorem ah_34 : af_Holds aw_Sh 1 ak_34 := af_soundG (G := ag_34) (K := ak_34) (d := 0) pz_104 rfl rfl rfl rfl aw_34 ac_34 af_HN
def ag_35 : af_G := ((3, 3, (some .boolean), mc_31), aw_Sh, [ak_33, ak_9, ak_11, ak_34, ak_21, ak_30], 0, ak_35.2.2.2.1, ak_35.2.2.2.2, [(65, (3, [(0, .inr (.inl 10)), (1, .inl (0, [0])), (2, .inl (0, [1]))], [], [((1, 5), (0, [2]))], ([(0, 0, 10), (1, 0, 9), (2, 0, 4)], [], [])), [(1, 0, (0, [])), (2147483647, 1, (0, [1])), (0, 0, (0, []))])], [], [])
set_option maxRecDepth 1000000 in
theorem ac_35 : af_meth 33 ag_35 ak_35.2.2.1 = true := by decide +kernel
theorem aw_35 : af_wfK ak_35.2.1 ak_35.2.2.1 ak_35.2.2.2.2 ag_35.2.2.2.2.2.2.1 = true := by decide +kernel
theorem ah_35 : af_Holds aw_Sh 5 ak_35 := af_soundG (G := ag_35) (K := ak_35) (d := 4) pz_31 rfl rfl rfl rfl aw_35 ac_35 (af_HC ah_33 (by decide) (af_HC ah_9 (by decide) (af_HC ah_11 (by decide) (af_HC ah_34 (by decide) (af_HC ah_21 (by decide) (af_HC ah_30 (by decide) af_HN))))))
def ag_36 : af_G := ((10, 2, (some .int), mc_159), aw_Sh, [], 1, ak_36.2.2.2.1, ak_36.2.2.2.2, [], [], [])
set_option maxRecDepth 1000000 in
theorem ac_36 : af_meth 17 ag_36 ak_36.2.2.1 = true := by decide +kernel
theorem aw_36 : af_wfK ak_36.2.1 ak_36.2.2.1 ak_36.2.2.2.2 ag_36.2.2.2.2.2.2.1 = true := by decide +kernel
theorem ah_36 : af_Holds aw_Sh 1 ak_36 := af_soundG (G := ag_36) (K := ak_36) (d := 0) pz_159 rfl rfl rfl rfl aw_36 ac_36 af_HN
def ag_37 : af_G := ((3, 3, (some .boolean), mc_23), aw_Sh, [ak_9, ak_11, ak_36], 1, ak_37.2.2.2.1, ak_37.2.2.2.2, [], [], [])
set_option maxRecDepth 1000000 in
theorem ac_37 : af_meth 18 ag_37 ak_37.2.2.1 = true := by decide +kernel
theorem aw_37 : af_wfK ak_37.2.1 ak_37.2.2.1 ak_37.2.2.2.2 ag_37.2.2.2.2.2.2.1 = true := by decide +kernel
theorem ah_37 : af_Holds aw_Sh 4 ak_37 := af_soundG (G := ag_37) (K := ak_37) (d := 3) pz_23 rfl rfl rfl rfl aw_37 ac_37 (af_HC ah_9 (by decide) (af_HC ah_11 (by decide) (af_HC ah_36 (by decide) af_HN)))
def ag_38 : af_G := ((2, 4, (some .boolean), mc_12), aw_Sh, [ak_13], 0, ak_38.2.2.2.1, ak_38.2.2.2.2, [(2, (1, [(0, .inr (.inl 7)), (1, .inr (.inr ())), (3, .inl (0, [0]))], [], [], ([(0, 0, 27)], [], [])), [(1, 0, (0, [])), (2147483647, 1, (0, [0])), (0, 0, (0, []))])], [], [])
set_option maxRecDepth 1000000 in
theorem ac_38 : af_meth 26 ag_38 ak_38.2.2.1 = true := by decide +kernel
theorem aw_38 : af_wfK ak_38.2.1 ak_38.2.2.1 ak_38.2.2.2.2 ag_38.2.2.2.2.2.2.1 = true := by decide +kernel
theorem ah_38 : af_Holds aw_Sh 2 ak_38 := af_soundG (G := ag_38) (K := ak_38) (d := 1) pz_12 rfl rfl rfl rfl aw_38 ac_38 (af_HC ah_13 (by decide) af_HN)
def ag_39 : af_G := ((10, 2, (some .int), mc_159), aw_Sh, [], 1, ak_39.2.2.2.1, ak_39.2.2.2.2, [], [], [])
set_option maxRecDepth 1000000 in
theorem ac_39 : af_meth 17 ag_39 ak_39.2.2.1 = true := by decide +kernel
theorem aw_39 : af_wfK ak_39.2.1 ak_39.2.2.1 ak_39.2.2.2.2 ag_39.2.2.2.2.2.2.1 = true := by decide +kernel
theorem ah_39 : af_Holds aw_Sh 1 ak_39 := af_soundG (G := ag_39) (K := ak_39) (d := 0) pz_159 rfl rfl rfl rfl aw_39 ac_39 af_HN
def ag_40 : af_G := ((10, 3, none, mc_160), aw_Sh, [], 2, ak_40.2.2.2.1, ak_40.2.2.2.2, [], [], [])
set_option maxRecDepth 1000000 in
theorem ac_40 : af_meth 17 ag_40 ak_40.2.2.1 = true := by decide +kernel
theorem aw_40 : af_wfK ak_40.2.1 ak_40.2.2.1 ak_40.2.2.2.2 ag_40.2.2.2.2.2.2.1 = true := by decide +kernel
theorem ah_40 : af_Holds aw_Sh 1 ak_40 := af_soundG (G := ag_40) (K := ak_40) (d := 0) pz_160 rfl rfl rfl rfl aw_40 ac_40 af_HN
def ag_41 : af_G := ((10, 3, none, mc_160), aw_Sh, [], 2, ak_41.2.2.2.1, ak_41.2.2.2.2, [], [], [])
set_option maxRecDepth 1000000 in
theorem ac_41 : af_meth 17 ag_41 ak_41.2.2.1 = true := by decide +kernel
theorem aw_41 : af_wfK ak_41.2.1 ak_41.2.2.1 ak_41.2.2.2.2 ag_41.2.2.2.2.2.2.1 = true := by decide +kernel
theorem ah_41 : af_Holds aw_Sh 1 ak_41 := af_soundG (G := ag_41) (K := ak_41) (d := 0) pz_160 rfl rfl rfl rfl aw_41 ac_41 af_HN
def ag_42 : af_G := ((10, 3, none, mc_160), aw_Sh, [], 1, ak_42.2.2.2.1, ak_42.2.2.2.2, [], [], [])
set_option maxRecDepth 1000000 in
theorem ac_42 : af_meth 17 ag_42 ak_42.2.2.1 = true := by decide +kernel
theorem aw_42 : af_wfK ak_42.2.1 ak_42.2.2.1 ak_42.2.2.2.2 ag_42.2.2.2.2.2.2.1 = true := by decide +kernel
theorem ah_42 : af_Holds aw_Sh 1 ak_42 := af_soundG (G := ag_42) (K := ak_42) (d := 0) pz_160 rfl rfl rfl rfl aw_42 ac_42 af_HN
def ag_43 : af_G := ((10, 3, none, mc_160), aw_Sh, [], 1, ak_43.2.2.2.1, ak_43.2.2.2.2, [], [], [])
set_option maxRecDepth 1000000 in
theorem ac_43 : af_meth 17 ag_43 ak_43.2.2.1 = true := by decide +kernel
theorem aw_43 : af_wfK ak_43.2.1 ak_43.2.2.1 ak_43.2.2.2.2 ag_43.2.2.2.2.2.2.1 = true := by decide +kernel
theorem ah_43 : af_Holds aw_Sh 1 ak_43 := af_soundG (G := ag_43) (K := ak_43) (d := 0) pz_160 rfl rfl rfl rfl aw_43 ac_43 af_HN
def ag_44 : af_G := ((2, 6, (some .int), mc_14), aw_Sh, [ak_39, ak_13, ak_43, ak_42, ak_41, ak_40], 2, ak_44.2.2.2.1, ak_44.2.2.2.2, [], [], [])
set_option maxRecDepth 1000000 in
theorem ac_44 : af_meth 58 ag_44 ak_44.2.2.1 = true := by decide +kernel
theorem aw_44 : af_wfK ak_44.2.1 ak_44.2.2.1 ak_44.2.2.2.2 ag_44.2.2.2.2.2.2.1 = true := by decide +kernel
theorem ah_44 : af_Holds aw_Sh 2 ak_44 := af_soundG (G := ag_44) (K := ak_44) (d := 1) pz_14 rfl rfl rfl rfl aw_44 ac_44 (af_HC ah_39 (by decide) (af_HC ah_13 (by decide) (af_HC ah_43 (by decide) (af_HC ah_42 (by decide) (af_HC ah_41 (by decide) (af_HC ah_40 (by decide) af_HN))))))
def ag_45 : af_G := ((3, 3, (some .int), mc_24), aw_Sh, [ak_38, ak_44, ak_9, ak_11, ak_12], 1, ak_45.2.2.2.1, ak_45.2.2.2.2, [], [], [])
set_option maxRecDepth 1000000 in
theorem ac_45 : af_meth 30 ag_45 ak_45.2.2.1 = true := by decide +kernel
theorem aw_45 : af_wfK ak_45.2.1 ak_45.2.2.1 ak_45.2.2.2.2 ag_45.2.2.2.2.2.2.1 = true := by decide +kernel
theorem ah_45 : af_Holds aw_Sh 4 ak_45 := af_soundG (G := ag_45) (K := ak_45) (d := 3) pz_24 rfl rfl rfl rfl aw_45 ac_45 (af_HC ah_38 (by decide) (af_HC ah_44 (by decide) (af_HC ah_9 (by decide) (af_HC ah_11 (by decide) (af_HC ah_12 (by decide) af_HN)))))
def ag_46 : af_G := ((9, 4, (some .int), mc_106), aw_Sh, [ak_9, ak_11], 2, ak_46.2.2.2.1, ak_46.2.2.2.2, [], [], [])
set_option maxRecDepth 1000000 in
theorem ac_46 : af_meth 25 ag_46 ak_46.2.2.1 = true := by decide +kernel
theorem aw_46 : af_wfK ak_46.2.1 ak_46.2.2.1 ak_46.2.2.2.2 ag_46.2.2.2.2.2.2.1 = true := by decide +kernel
theorem ah_46 : af_Holds aw_Sh 4 ak_46 := af_soundG (G := ag_46) (K := ak_46) (d := 3) pz_106 rfl rfl rfl rfl aw_46 ac_46 (af_HC ah_9 (by decide) (af_HC ah_11 (by decide) af_HN))
def ag_47 : af_G := ((10, 3, none, mc_160), aw_Sh, [], 2, ak_47.2.2.2.1, ak_47.2.2.2.2, [], [], [])
set_option maxRecDepth 1000000 in
theorem ac_47 : af_meth 17 ag_47 ak_47.2.2.1 = true := by decide +kernel
theorem aw_47 : af_wfK ak_47.2.1 ak_47.2.2.1 ak_47.2.2.2.2 ag_47.2.2.2.2.2.2.1 = true := by decide +kernel
theorem ah_47 : af_Holds aw_Sh 1 ak_47 := af_soundG (G := ag_47) (K := ak_47) (d := 0) pz_160 rfl rfl rfl rfl aw_47 ac_47 af_HN
def ag_48 : af_G := ((10, 3, none, mc_160), aw_Sh, [], 2, ak_48.2.2.2.1, ak_48.2.2.2.2, [], [], [])
set_option maxRecDepth 1000000 in
theorem ac_48 : af_meth 17 ag_48 ak_48.2.2.1 = true := by decide +kernel
theorem aw_48 : af_wfK ak_48.2.1 ak_48.2.2.1 ak_48.2.2.2.2 ag_48.2.2.2.2.2.2.1 = true := by decide +kernel
theorem ah_48 : af_Holds aw_Sh 1 ak_48 := af_soundG (G := ag_48) (K := ak_48) (d := 0) pz_160 rfl rfl rfl rfl aw_48 ac_48 af_HN
def ag_49 : af_G := ((10, 3, none, mc_160), aw_Sh, [], 2, ak_49.2.2.2.1, ak_49.2.2.2.2, [], [], [])
set_option maxRecDepth 1000000 in
theorem ac_49 : af_meth 17 ag_49 ak_49.2.2.1 = true := by decide +kernel
theorem aw_49 : af_wfK ak_49.2.1 ak_49.2.2.1 ak_49.2.2.2.2 ag_49.2.2.2.2.2.2.1 = true := by decide +kernel
theorem ah_49 : af_Holds aw_Sh 1 ak_49 := af_soundG (G := ag_49) (K := ak_49) (d := 0) pz_160 rfl rfl rfl rfl aw_49 ac_49 af_HN
def ag_50 : af_G := ((3, 4, (some .boolean), mc_30), aw_Sh, [ak_45, ak_46, ak_22, ak_47, ak_48, ak_49], 1, ak_50.2.2.2.1, ak_50.2.2.2.2, [], [], [])
set_option maxRecDepth 1000000 in
theorem ac_50 : af_meth 58 ag_50 ak_50.2.2.1 = true := by decide +kernel
theorem aw_50 : af_wfK ak_50.2.1 ak_50.2.2.1 ak_50.2.2.2.2 ag_50.2.2.2.2.2.2.1 = true := by decide +kernel
theorem ah_50 : af_Holds aw_Sh 5 ak_50 := af_soundG (G := ag_50) (K := ak_50) (d := 4) pz_30 rfl rfl rfl rfl aw_50 ac_50 (af_HC ah_45 (by decide) (af_HC ah_46 (by decide) (af_HC ah_22 (by decide) (af_HC ah_47 (by decide) (af_HC ah_48 (by decide) (af_HC ah_49 (by decide) af_HN))))))
def ag_51 : af_G := ((10, 2, (some .int), mc_159), aw_Sh, [], 1, ak_51.2.2.2.1, ak_51.2.2.2.2, [], [], [])
set_option maxRecDepth 1000000 in
theorem ac_51 : af_meth 17 ag_51 ak_51.2.2.1 = true := by decide +kernel
theorem aw_51 : af_wfK ak_51.2.1 ak_51.2.2.1 ak_51.2.2.2.2 ag_51.2.2.2.2.2.2.1 = true := by decide +kernel
theorem ah_51 : af_Holds aw_Sh 1 ak_51 := af_soundG (G := ag_51) (K := ak_51) (d := 0) pz_159 rfl rfl rfl rfl aw_51 ac_51 af_HN
def ag_52 : af_G := ((3, 3, (some .boolean), mc_23), aw_Sh, [ak_9, ak_11, ak_51], 1, ak_52.2.2.2.1, ak_52.2.2.2.2, [], [], [])
set_option maxRecDepth 1000000 in
theorem ac_52 : af_meth 18 ag_52 ak_52.2.2.1 = true := by decide +kernel
theorem aw_52 : af_wfK ak_52.2.1 ak_52.2.2.1 ak_52.2.2.2.2 ag_52.2.2.2.2.2.2.1 = true := by decide +kernel
theorem ah_52 : af_Holds aw_Sh 4 ak_52 := af_soundG (G := ag_52) (K := ak_52) (d := 3) pz_23 rfl rfl rfl rfl aw_52 ac_52 (af_HC ah_9 (by decide) (af_HC ah_11 (by decide) (af_HC ah_51 (by decide) af_HN)))
def ag_53 : af_G := ((10, 2, (some .int), mc_159), aw_Sh, [], 1, ak_53.2.2.2.1, ak_53.2.2.2.2, [], [], [])
set_option maxRecDepth 1000000 in
theorem ac_53 : af_meth 17 ag_53 ak_53.2.2.1 = true := by decide +kernel
theorem aw_53 : af_wfK ak_53.2.1 ak_53.2.2.1 ak_53.2.2.2.2 ag_53.2.2.2.2.2.2.1 = true := by decide +kernel
theorem ah_53 : af_Holds aw_Sh 1 ak_53 := af_soundG (G := ag_53) (K := ak_53) (d := 0) pz_159 rfl rfl rfl rfl aw_53 ac_53 af_HN
def ag_54 : af_G := ((10, 3, none, mc_160), aw_Sh, [], 1, ak_54.2.2.2.1, ak_54.2.2.2.2, [], [], [])
set_option maxRecDepth 1000000 in
theorem ac_54 : af_meth 17 ag_54 ak_54.2.2.1 = true := by decide +kernel
theorem aw_54 : af_wfK ak_54.2.1 ak_54.2.2.1 ak_54.2.2.2.2 ag_54.2.2.2.2.2.2.1 = true := by decide +kernel
theorem ah_54 : af_Holds aw_Sh 1 ak_54 := af_soundG (G := ag_54) (K := ak_54) (d := 0) pz_160 rfl rfl rfl rfl aw_54 ac_54 af_HN
def ag_55 : af_G := ((2, 6, (some .int), mc_14), aw_Sh, [ak_53, ak_13, ak_54, ak_42, ak_41, ak_40], 2, ak_55.2.2.2.1, ak_55.2.2.2.2, [], [], [])
set_option maxRecDepth 1000000 in
theorem ac_55 : af_meth 58 ag_55 ak_55.2.2.1 = true := by decide +kernel
theorem aw_55 : af_wfK ak_55.2.1 ak_55.2.2.1 ak_55.2.2.2.2 ag_55.2.2.2.2.2.2.1 = true := by decide +kernel
theorem ah_55 : af_Holds aw_Sh 2 ak_55 := af_soundG (G := ag_55) (K := ak_55) (d := 1) pz_14 rfl rfl rfl rfl aw_55 ac_55 (af_HC ah_53 (by decide) (af_HC ah_13 (by decide) (af_HC ah_54 (by decide) (af_HC ah_42 (by decide) (af_HC ah_41 (by decide) (af_HC ah_40 (by decide) af_HN))))))
def ag_56 : af_G := ((3, 3, (some .int), mc_24), aw_Sh, [ak_38, ak_55, ak_9, ak_11, ak_12], 1, ak_56.2.2.2.1, ak_56.2.2.2.2, [], [], [])
set_option maxRecDepth 1000000 in
theorem ac_56 : af_meth 30 ag_56 ak_56.2.2.1 = true := by decide +kernel
theorem aw_56 : af_wfK ak_56.2.1 ak_56.2.2.1 ak_56.2.2.2.2 ag_56.2.2.2.2.2.2.1 = true := by decide +kernel
theorem ah_56 : af_Holds aw_Sh 4 ak_56 := af_soundG (G := ag_56) (K := ak_56) (d := 3) pz_24 rfl rfl rfl rfl aw_56 ac_56 (af_HC ah_38 (by decide) (af_HC ah_55 (by decide) (af_HC ah_9 (by decide) (af_HC ah_11 (by decide) (af_HC ah_12 (by decide) af_HN)))))
def ag_57 : af_G := ((10, 3, none, mc_160), aw_Sh, [], 2, ak_57.2.2.2.1, ak_57.2.2.2.2, [], [], [])
set_option maxRecDepth 1000000 in
theorem ac_57 : af_meth 17 ag_57 ak_57.2.2.1 = true := by decide +kernel
theorem aw_57 : af_wfK ak_57.2.1 ak_57.2.2.1 ak_57.2.2.2.2 ag_57.2.2.2.2.2.2.1 = true := by decide +kernel
theorem ah_57 : af_Holds aw_Sh 1 ak_57 := af_soundG (G := ag_57) (K := ak_57) (d := 0) pz_160 rfl rfl rfl rfl aw_57 ac_57 af_HN
def ag_58 : af_G := ((10, 3, none, mc_160), aw_Sh, [], 2, ak_58.2.2.2.1, ak_58.2.2.2.2, [], [], [])
set_option maxRecDepth 1000000 in
theorem ac_58 : af_meth 17 ag_58 ak_58.2.2.1 = true := by decide +kernel
theorem aw_58 : af_wfK ak_58.2.1 ak_58.2.2.1 ak_58.2.2.2.2 ag_58.2.2.2.2.2.2.1 = true := by decide +kernel
theorem ah_58 : af_Holds aw_Sh 1 ak_58 := af_soundG (G := ag_58) (K := ak_58) (d := 0) pz_160 rfl rfl rfl rfl aw_58 ac_58 af_HN
def ag_59 : af_G := ((3, 3, (some .boolean), mc_26), aw_Sh, [ak_56, ak_46, ak_57, ak_58], 1, ak_59.2.2.2.1, ak_59.2.2.2.2, [], [], [])
set_option maxRecDepth 1000000 in
theorem ac_59 : af_meth 41 ag_59 ak_59.2.2.1 = true := by decide +kernel
theorem aw_59 : af_wfK ak_59.2.1 ak_59.2.2.1 ak_59.2.2.2.2 ag_59.2.2.2.2.2.2.1 = true := by decide +kernel
theorem ah_59 : af_Holds aw_Sh 5 ak_59 := af_soundG (G := ag_59) (K := ak_59) (d := 4) pz_26 rfl rfl rfl rfl aw_59 ac_59 (af_HC ah_56 (by decide) (af_HC ah_46 (by decide) (af_HC ah_57 (by decide) (af_HC ah_58 (by decide) af_HN))))
def ag_60 : af_G := ((10, 2, (some .int), mc_159), aw_Sh, [], 1, ak_60.2.2.2.1, ak_60.2.2.2.2, [], [], [])
set_option maxRecDepth 1000000 in
theorem ac_60 : af_meth 17 ag_60 ak_60.2.2.1 = true := by decide +kernel
theorem aw_60 : af_wfK ak_60.2.1 ak_60.2.2.1 ak_60.2.2.2.2 ag_60.2.2.2.2.2.2.1 = true := by decide +kernel
theorem ah_60 : af_Holds aw_Sh 1 ak_60 := af_soundG (G := ag_60) (K := ak_60) (d := 0) pz_159 rfl rfl rfl rfl aw_60 ac_60 af_HN
def ag_61 : af_G := ((10, 3, none, mc_160), aw_Sh, [], 2, ak_61.2.2.2.1, ak_61.2.2.2.2, [], [], [])
set_option maxRecDepth 1000000 in
theorem ac_61 : af_meth 17 ag_61 ak_61.2.2.1 = true := by decide +kernel
theorem aw_61 : af_wfK ak_61.2.1 ak_61.2.2.1 ak_61.2.2.2.2 ag_61.2.2.2.2.2.2.1 = true := by decide +kernel
theorem ah_61 : af_Holds aw_Sh 1 ak_61 := af_soundG (G := ag_61) (K := ak_61) (d := 0) pz_160 rfl rfl rfl rfl aw_61 ac_61 af_HN
def ag_62 : af_G := ((3, 3, (some .boolean), mc_29), aw_Sh, [ak_9, ak_11, ak_21, ak_51, ak_60, ak_61], 0, ak_62.2.2.2.1, ak_62.2.2.2.2, [], [], [])
set_option maxRecDepth 1000000 in
theorem ac_62 : af_meth 49 ag_62 ak_62.2.2.1 = true := by decide +kernel
theorem aw_62 : af_wfK ak_62.2.1 ak_62.2.2.1 ak_62.2.2.2.2 ag_62.2.2.2.2.2.2.1 = true := by decide +kernel
theorem ah_62 : af_Holds aw_Sh 4 ak_62 := af_soundG (G := ag_62) (K := ak_62) (d := 3) pz_29 rfl rfl rfl rfl aw_62 ac_62 (af_HC ah_9 (by decide) (af_HC ah_11 (by decide) (af_HC ah_21 (by decide) (af_HC ah_51 (by decide) (af_HC ah_60 (by decide) (af_HC ah_61 (by decide) af_HN))))))
def ag_63 : af_G := ((10, 2, (some .int), mc_159), aw_Sh, [], 1, ak_63.2.2.2.1, ak_63.2.2.2.2, [], [], [])
set_option maxRecDepth 1000000 in
theorem ac_63 : af_meth 17 ag_63 ak_63.2.2.1 = true := by decide +kernel
theorem aw_63 : af_wfK ak_63.2.1 ak_63.2.2.1 ak_63.2.2.2.2 ag_63.2.2.2.2.2.2.1 = true := by decide +kernel
theorem ah_63 : af_Holds aw_Sh 1 ak_63 := af_soundG (G := ag_63) (K := ak_63) (d := 0) pz_159 rfl rfl rfl rfl aw_63 ac_63 af_HN
def ag_64 : af_G := ((10, 3, none, mc_160), aw_Sh, [], 2, ak_64.2.2.2.1, ak_64.2.2.2.2, [], [], [])
set_option maxRecDepth 1000000 in
theorem ac_64 : af_meth 17 ag_64 ak_64.2.2.1 = true := by decide +kernel
theorem aw_64 : af_wfK ak_64.2.1 ak_64.2.2.1 ak_64.2.2.2.2 ag_64.2.2.2.2.2.2.1 = true := by decide +kernel
theorem ah_64 : af_Holds aw_Sh 1 ak_64 := af_soundG (G := ag_64) (K := ak_64) (d := 0) pz_160 rfl rfl rfl rfl aw_64 ac_64 af_HN
def ag_65 : af_G := ((2, 3, none, mc_15), aw_Sh, [ak_63, ak_64], 2, ak_65.2.2.2.1, ak_65.2.2.2.2, [], [], [])
set_option maxRecDepth 1000000 in
theorem ac_65 : af_meth 17 ag_65 ak_65.2.2.1 = true := by decide +kernel
theorem aw_65 : af_wfK ak_65.2.1 ak_65.2.2.1 ak_65.2.2.2.2 ag_65.2.2.2.2.2.2.1 = true := by decide +kernel
theorem ah_65 : af_Holds aw_Sh 2 ak_65 := af_soundG (G := ag_65) (K := ak_65) (d := 1) pz_15 rfl rfl rfl rfl aw_65 ac_65 (af_HC ah_63 (by decide) (af_HC ah_64 (by decide) af_HN))
def ag_66 : af_G := ((3, 3, (some .boolean), mc_28), aw_Sh, [ak_65, ak_9, ak_11, ak_21, ak_63], 1, ak_66.2.2.2.1, ak_66.2.2.2.2, [], [], [])
set_option maxRecDepth 1000000 in
theorem ac_66 : af_meth 43 ag_66 ak_66.2.2.1 = true := by decide +kernel
theorem aw_66 : af_wfK ak_66.2.1 ak_66.2.2.1 ak_66.2.2.2.2 ag_66.2.2.2.2.2.2.1 = true := by decide +kernel
theorem ah_66 : af_Holds aw_Sh 4 ak_66 := af_soundG (G := ag_66) (K := ak_66) (d := 3) pz_28 rfl rfl rfl rfl aw_66 ac_66 (af_HC ah_65 (by decide) (af_HC ah_9 (by decide) (af_HC ah_11 (by decide) (af_HC ah_21 (by decide) (af_HC ah_63 (by decide) af_HN)))))
def ag_67 : af_G := ((3, 3, (some .boolean), mc_27), aw_Sh, [ak_66, ak_34, ak_51], 0, ak_67.2.2.2.1, ak_67.2.2.2.2, [(26, (3, [(0, .inr (.inl 10)), (1, .inl (0, [0])), (2, .inl (0, [1]))], [], [((1, 5), (0, [2]))], ([(0, (-1), 5), (1, 0, 5), (2, 0, 4)], [], [])), [(1, 0, (0, [])), (2147483647, 1, (0, [1])), (0, 0, (0, []))])], [], [])
set_option maxRecDepth 1000000 in
theorem ac_67 : af_meth 20 ag_67 ak_67.2.2.1 = true := by decide +kernel
theorem aw_67 : af_wfK ak_67.2.1 ak_67.2.2.1 ak_67.2.2.2.2 ag_67.2.2.2.2.2.2.1 = true := by decide +kernel
theorem ah_67 : af_Holds aw_Sh 5 ak_67 := af_soundG (G := ag_67) (K := ak_67) (d := 4) pz_27 rfl rfl rfl rfl aw_67 ac_67 (af_HC ah_66 (by decide) (af_HC ah_34 (by decide) (af_HC ah_51 (by decide) af_HN)))
def ag_68 : af_G := ((10, 2, (some .int), mc_159), aw_Sh, [], 1, ak_68.2.2.2.1, ak_68.2.2.2.2, [], [], [])
set_option maxRecDepth 1000000 in
theorem ac_68 : af_meth 17 ag_68 ak_68.2.2.1 = true := by decide +kernel
theorem aw_68 : af_wfK ak_68.2.1 ak_68.2.2.1 ak_68.2.2.2.2 ag_68.2.2.2.2.2.2.1 = true := by decide +kernel
theorem ah_68 : af_Holds aw_Sh 1 ak_68 := af_soundG (G := ag_68) (K := ak_68) (d := 0) pz_159 rfl rfl rfl rfl aw_68 ac_68 af_HN
def ag_69 : af_G := ((3, 3, (some .boolean), mc_23), aw_Sh, [ak_9, ak_11, ak_68], 1, ak_69.2.2.2.1, ak_69.2.2.2.2, [], [], [])
set_option maxRecDepth 1000000 in
theorem ac_69 : af_meth 18 ag_69 ak_69.2.2.1 = true := by decide +kernel
theorem aw_69 : af_wfK ak_69.2.1 ak_69.2.2.1 ak_69.2.2.2.2 ag_69.2.2.2.2.2.2.1 = true := by decide +kernel
theorem ah_69 : af_Holds aw_Sh 4 ak_69 := af_soundG (G := ag_69) (K := ak_69) (d := 3) pz_23 rfl rfl rfl rfl aw_69 ac_69 (af_HC ah_9 (by decide) (af_HC ah_11 (by decide) (af_HC ah_68 (by decide) af_HN)))
def ag_70 : af_G := ((10, 2, (some .int), mc_159), aw_Sh, [], 1, ak_70.2.2.2.1, ak_70.2.2.2.2, [], [], [])
set_option maxRecDepth 1000000 in
theorem ac_70 : af_meth 17 ag_70 ak_70.2.2.1 = true := by decide +kernel
theorem aw_70 : af_wfK ak_70.2.1 ak_70.2.2.1 ak_70.2.2.2.2 ag_70.2.2.2.2.2.2.1 = true := by decide +kernel
theorem ah_70 : af_Holds aw_Sh 1 ak_70 := af_soundG (G := ag_70) (K := ak_70) (d := 0) pz_159 rfl rfl rfl rfl aw_70 ac_70 af_HN
def ag_71 : af_G := ((10, 3, none, mc_160), aw_Sh, [], 2, ak_71.2.2.2.1, ak_71.2.2.2.2, [], [], [])
set_option maxRecDepth 1000000 in
theorem ac_71 : af_meth 17 ag_71 ak_71.2.2.1 = true := by decide +kernel
theorem aw_71 : af_wfK ak_71.2.1 ak_71.2.2.1 ak_71.2.2.2.2 ag_71.2.2.2.2.2.2.1 = true := by decide +kernel
theorem ah_71 : af_Holds aw_Sh 1 ak_71 := af_soundG (G := ag_71) (K := ak_71) (d := 0) pz_160 rfl rfl rfl rfl aw_71 ac_71 af_HN
def ag_72 : af_G := ((10, 3, none, mc_160), aw_Sh, [], 1, ak_72.2.2.2.1, ak_72.2.2.2.2, [], [], [])
set_option maxRecDepth 1000000 in
theorem ac_72 : af_meth 17 ag_72 ak_72.2.2.1 = true := by decide +kernel
theorem aw_72 : af_wfK ak_72.2.1 ak_72.2.2.1 ak_72.2.2.2.2 ag_72.2.2.2.2.2.2.1 = true := by decide +kernel
theorem ah_72 : af_Holds aw_Sh 1 ak_72 := af_soundG (G := ag_72) (K := ak_72) (d := 0) pz_160 rfl rfl rfl rfl aw_72 ac_72 af_HN
def ag_73 : af_G := ((2, 6, (some .int), mc_14), aw_Sh, [ak_70, ak_13, ak_72, ak_42, ak_71, ak_40], 2, ak_73.2.2.2.1, ak_73.2.2.2.2, [], [], [])
set_option maxRecDepth 1000000 in
theorem ac_73 : af_meth 58 ag_73 ak_73.2.2.1 = true := by decide +kernel
theorem aw_73 : af_wfK ak_73.2.1 ak_73.2.2.1 ak_73.2.2.2.2 ag_73.2.2.2.2.2.2.1 = true := by decide +kernel
theorem ah_73 : af_Holds aw_Sh 2 ak_73 := af_soundG (G := ag_73) (K := ak_73) (d := 1) pz_14 rfl rfl rfl rfl aw_73 ac_73 (af_HC ah_70 (by decide) (af_HC ah_13 (by decide) (af_HC ah_72 (by decide) (af_HC ah_42 (by decide) (af_HC ah_71 (by decide) (af_HC ah_40 (by decide) af_HN))))))
def ag_74 : af_G := ((3, 3, (some .int), mc_24), aw_Sh, [ak_38, ak_73, ak_9, ak_11, ak_12], 1, ak_74.2.2.2.1, ak_74.2.2.2.2, [], [], [])
set_option maxRecDepth 1000000 in
theorem ac_74 : af_meth 30 ag_74 ak_74.2.2.1 = true := by decide +kernel
theorem aw_74 : af_wfK ak_74.2.1 ak_74.2.2.1 ak_74.2.2.2.2 ag_74.2.2.2.2.2.2.1 = true := by decide +kernel
theorem ah_74 : af_Holds aw_Sh 4 ak_74 := af_soundG (G := ag_74) (K := ak_74) (d := 3) pz_24 rfl rfl rfl rfl aw_74 ac_74 (af_HC ah_38 (by decide) (af_HC ah_73 (by decide) (af_HC ah_9 (by decide) (af_HC ah_11 (by decide) (af_HC ah_12 (by decide) af_HN)))))
def ag_75 : af_G := ((10, 2, (some .int), mc_159), aw_Sh, [], 1, ak_75.2.2.2.1, ak_75.2.2.2.2, [], [], [])
set_option maxRecDepth 1000000 in
theorem ac_75 : af_meth 17 ag_75 ak_75.2.2.1 = true := by decide +kernel
theorem aw_75 : af_wfK ak_75.2.1 ak_75.2.2.1 ak_75.2.2.2.2 ag_75.2.2.2.2.2.2.1 = true := by decide +kernel
theorem ah_75 : af_Holds aw_Sh 1 ak_75 := af_soundG (G := ag_75) (K := ak_75) (d := 0) pz_159 rfl rfl rfl rfl aw_75 ac_75 af_HN
def ag_76 : af_G := ((3, 3, (some .boolean), mc_23), aw_Sh, [ak_9, ak_11, ak_75], 1, ak_76.2.2.2.1, ak_76.2.2.2.2, [], [], [])
set_option maxRecDepth 1000000 in
theorem ac_76 : af_meth 18 ag_76 ak_76.2.2.1 = true := by decide +kernel
theorem aw_76 : af_wfK ak_76.2.1 ak_76.2.2.1 ak_76.2.2.2.2 ag_76.2.2.2.2.2.2.1 = true := by decide +kernel
theorem ah_76 : af_Holds aw_Sh 4 ak_76 := af_soundG (G := ag_76) (K := ak_76) (d := 3) pz_23 rfl rfl rfl rfl aw_76 ac_76 (af_HC ah_9 (by decide) (af_HC ah_11 (by decide) (af_HC ah_75 (by decide) af_HN)))
def ag_77 : af_G := ((10, 2, (some .int), mc_159), aw_Sh, [], 1, ak_77.2.2.2.1, ak_77.2.2.2.2, [], [], [])
set_option maxRecDepth 1000000 in
theorem ac_77 : af_meth 17 ag_77 ak_77.2.2.1 = true := by decide +kernel
theorem aw_77 : af_wfK ak_77.2.1 ak_77.2.2.1 ak_77.2.2.2.2 ag_77.2.2.2.2.2.2.1 = true := by decide +kernel
theorem ah_77 : af_Holds aw_Sh 1 ak_77 := af_soundG (G := ag_77) (K := ak_77) (d := 0) pz_159 rfl rfl rfl rfl aw_77 ac_77 af_HN
def ag_78 : af_G := ((2, 3, (some .boolean), mc_16), aw_Sh, [ak_77], 2, ak_78.2.2.2.1, ak_78.2.2.2.2, [], [], [])
set_option maxRecDepth 1000000 in
theorem ac_78 : af_meth 21 ag_78 ak_78.2.2.1 = true := by decide +kernel
theorem aw_78 : af_wfK ak_78.2.1 ak_78.2.2.1 ak_78.2.2.2.2 ag_78.2.2.2.2.2.2.1 = true := by decide +kernel
theorem ah_78 : af_Holds aw_Sh 2 ak_78 := af_soundG (G := ag_78) (K := ak_78) (d := 1) pz_16 rfl rfl rfl rfl aw_78 ac_78 (af_HC ah_77 (by decide) af_HN)
def ag_79 : af_G := ((10, 2, (some .int), mc_159), aw_Sh, [], 1, ak_79.2.2.2.1, ak_79.2.2.2.2, [], [], [])
set_option maxRecDepth 1000000 in
theorem ac_79 : af_meth 17 ag_79 ak_79.2.2.1 = true := by decide +kernel
theorem aw_79 : af_wfK ak_79.2.1 ak_79.2.2.1 ak_79.2.2.2.2 ag_79.2.2.2.2.2.2.1 = true := by decide +kernel
theorem ah_79 : af_Holds aw_Sh 1 ak_79 := af_soundG (G := ag_79) (K := ak_79) (d := 0) pz_159 rfl rfl rfl rfl aw_79 ac_79 af_HN
def ag_80 : af_G := ((10, 3, none, mc_160), aw_Sh, [], 2, ak_80.2.2.2.1, ak_80.2.2.2.2, [], [], [])
set_option maxRecDepth 1000000 in
theorem ac_80 : af_meth 17 ag_80 ak_80.2.2.1 = true := by decide +kernel
theorem aw_80 : af_wfK ak_80.2.1 ak_80.2.2.1 ak_80.2.2.2.2 ag_80.2.2.2.2.2.2.1 = true := by decide +kernel
theorem ah_80 : af_Holds aw_Sh 1 ak_80 := af_soundG (G := ag_80) (K := ak_80) (d := 0) pz_160 rfl rfl rfl rfl aw_80 ac_80 af_HN
def ag_81 : af_G := ((2, 3, none, mc_15), aw_Sh, [ak_79, ak_80], 2, ak_81.2.2.2.1, ak_81.2.2.2.2, [], [], [])
set_option maxRecDepth 1000000 in
theorem ac_81 : af_meth 17 ag_81 ak_81.2.2.1 = true := by decide +kernel
theorem aw_81 : af_wfK ak_81.2.1 ak_81.2.2.1 ak_81.2.2.2.2 ag_81.2.2.2.2.2.2.1 = true := by decide +kernel
theorem ah_81 : af_Holds aw_Sh 2 ak_81 := af_soundG (G := ag_81) (K := ak_81) (d := 1) pz_15 rfl rfl rfl rfl aw_81 ac_81 (af_HC ah_79 (by decide) (af_HC ah_80 (by decide) af_HN))
def ag_82 : af_G := ((10, 2, (some .int), mc_159), aw_Sh, [], 1, ak_82.2.2.2.1, ak_82.2.2.2.2, [], [], [])
set_option maxRecDepth 1000000 in
theorem ac_82 : af_meth 17 ag_82 ak_82.2.2.1 = true := by decide +kernel
theorem aw_82 : af_wfK ak_82.2.1 ak_82.2.2.1 ak_82.2.2.2.2 ag_82.2.2.2.2.2.2.1 = true := by decide +kernel
theorem ah_82 : af_Holds aw_Sh 1 ak_82 := af_soundG (G := ag_82) (K := ak_82) (d := 0) pz_159 rfl rfl rfl rfl aw_82 ac_82 af_HN
def ag_83 : af_G := ((10, 3, none, mc_160), aw_Sh, [], 1, ak_83.2.2.2.1, ak_83.2.2.2.2, [], [], [])
set_option maxRecDepth 1000000 in
theorem ac_83 : af_meth 17 ag_83 ak_83.2.2.1 = true := by decide +kernel
theorem aw_83 : af_wfK ak_83.2.1 ak_83.2.2.1 ak_83.2.2.2.2 ag_83.2.2.2.2.2.2.1 = true := by decide +kernel
theorem ah_83 : af_Holds aw_Sh 1 ak_83 := af_soundG (G := ag_83) (K := ak_83) (d := 0) pz_160 rfl rfl rfl rfl aw_83 ac_83 af_HN
def ag_84 : af_G := ((3, 3, (some .boolean), mc_25), aw_Sh, [ak_81, ak_78, ak_9, ak_11, ak_21, ak_22, ak_82, ak_83], 1, ak_84.2.2.2.1, ak_84.2.2.2.2, [], [], [])
set_option maxRecDepth 1000000 in
theorem ac_84 : af_meth 70 ag_84 ak_84.2.2.1 = true := by decide +kernel
theorem aw_84 : af_wfK ak_84.2.1 ak_84.2.2.1 ak_84.2.2.2.2 ag_84.2.2.2.2.2.2.1 = true := by decide +kernel
theorem ah_84 : af_Holds aw_Sh 5 ak_84 := af_soundG (G := ag_84) (K := ak_84) (d := 4) pz_25 rfl rfl rfl rfl aw_84 ac_84 (af_HC ah_81 (by decide) (af_HC ah_78 (by decide) (af_HC ah_9 (by decide) (af_HC ah_11 (by decide) (af_HC ah_21 (by decide) (af_HC ah_22 (by decide) (af_HC ah_82 (by decide) (af_HC ah_83 (by decide) af_HN))))))))
def ag_85 : af_G := ((10, 2, (some .int), mc_159), aw_Sh, [], 1, ak_85.2.2.2.1, ak_85.2.2.2.2, [], [], [])
set_option maxRecDepth 1000000 in
theorem ac_85 : af_meth 17 ag_85 ak_85.2.2.1 = true := by decide +kernel
theorem aw_85 : af_wfK ak_85.2.1 ak_85.2.2.1 ak_85.2.2.2.2 ag_85.2.2.2.2.2.2.1 = true := by decide +kernel
theorem ah_85 : af_Holds aw_Sh 1 ak_85 := af_soundG (G := ag_85) (K := ak_85) (d := 0) pz_159 rfl rfl rfl rfl aw_85 ac_85 af_HN
def ag_86 : af_G := ((3, 3, (some .boolean), mc_23), aw_Sh, [ak_9, ak_11, ak_85], 1, ak_86.2.2.2.1, ak_86.2.2.2.2, [], [], [])
set_option maxRecDepth 1000000 in
theorem ac_86 : af_meth 18 ag_86 ak_86.2.2.1 = true := by decide +kernel
theorem aw_86 : af_wfK ak_86.2.1 ak_86.2.2.1 ak_86.2.2.2.2 ag_86.2.2.2.2.2.2.1 = true := by decide +kernel
theorem ah_86 : af_Holds aw_Sh 4 ak_86 := af_soundG (G := ag_86) (K := ak_86) (d := 3) pz_23 rfl rfl rfl rfl aw_86 ac_86 (af_HC ah_9 (by decide) (af_HC ah_11 (by decide) (af_HC ah_85 (by decide) af_HN)))
def ag_87 : af_G := ((10, 2, (some .int), mc_159), aw_Sh, [], 1, ak_87.2.2.2.1, ak_87.2.2.2.2, [], [], [])
set_option maxRecDepth 1000000 in
theorem ac_87 : af_meth 17 ag_87 ak_87.2.2.1 = true := by decide +kernel
theorem aw_87 : af_wfK ak_87.2.1 ak_87.2.2.1 ak_87.2.2.2.2 ag_87.2.2.2.2.2.2.1 = true := by decide +kernel
theorem ah_87 : af_Holds aw_Sh 1 ak_87 := af_soundG (G := ag_87) (K := ak_87) (d := 0) pz_159 rfl rfl rfl rfl aw_87 ac_87 af_HN
def ag_88 : af_G := ((10, 3, none, mc_160), aw_Sh, [], 2, ak_88.2.2.2.1, ak_88.2.2.2.2, [], [], [])
set_option maxRecDepth 1000000 in
theorem ac_88 : af_meth 17 ag_88 ak_88.2.2.1 = true := by decide +kernel
theorem aw_88 : af_wfK ak_88.2.1 ak_88.2.2.1 ak_88.2.2.2.2 ag_88.2.2.2.2.2.2.1 = true := by decide +kernel
theorem ah_88 : af_Holds aw_Sh 1 ak_88 := af_soundG (G := ag_88) (K := ak_88) (d := 0) pz_160 rfl rfl rfl rfl aw_88 ac_88 af_HN
def ag_89 : af_G := ((10, 3, none, mc_160), aw_Sh, [], 1, ak_89.2.2.2.1, ak_89.2.2.2.2, [], [], [])
set_option maxRecDepth 1000000 in
theorem ac_89 : af_meth 17 ag_89 ak_89.2.2.1 = true := by decide +kernel
theorem aw_89 : af_wfK ak_89.2.1 ak_89.2.2.1 ak_89.2.2.2.2 ag_89.2.2.2.2.2.2.1 = true := by decide +kernel
theorem ah_89 : af_Holds aw_Sh 1 ak_89 := af_soundG (G := ag_89) (K := ak_89) (d := 0) pz_160 rfl rfl rfl rfl aw_89 ac_89 af_HN
def ag_90 : af_G := ((2, 6, (some .int), mc_14), aw_Sh, [ak_87, ak_13, ak_89, ak_42, ak_88, ak_40], 2, ak_90.2.2.2.1, ak_90.2.2.2.2, [], [], [])
set_option maxRecDepth 1000000 in
theorem ac_90 : af_meth 58 ag_90 ak_90.2.2.1 = true := by decide +kernel
theorem aw_90 : af_wfK ak_90.2.1 ak_90.2.2.1 ak_90.2.2.2.2 ag_90.2.2.2.2.2.2.1 = true := by decide +kernel
theorem ah_90 : af_Holds aw_Sh 2 ak_90 := af_soundG (G := ag_90) (K := ak_90) (d := 1) pz_14 rfl rfl rfl rfl aw_90 ac_90 (af_HC ah_87 (by decide) (af_HC ah_13 (by decide) (af_HC ah_89 (by decide) (af_HC ah_42 (by decide) (af_HC ah_88 (by decide) (af_HC ah_40 (by decide) af_HN))))))
def ag_91 : af_G := ((3, 3, (some .int), mc_24), aw_Sh, [ak_38, ak_90, ak_9, ak_11, ak_12], 1, ak_91.2.2.2.1, ak_91.2.2.2.2, [], [], [])
set_option maxRecDepth 1000000 in
theorem ac_91 : af_meth 30 ag_91 ak_91.2.2.1 = true := by decide +kernel
theorem aw_91 : af_wfK ak_91.2.1 ak_91.2.2.1 ak_91.2.2.2.2 ag_91.2.2.2.2.2.2.1 = true := by decide +kernel
theorem ah_91 : af_Holds aw_Sh 4 ak_91 := af_soundG (G := ag_91) (K := ak_91) (d := 3) pz_24 rfl rfl rfl rfl aw_91 ac_91 (af_HC ah_38 (by decide) (af_HC ah_90 (by decide) (af_HC ah_9 (by decide) (af_HC ah_11 (by decide) (af_HC ah_12 (by decide) af_HN)))))
def ag_92 : af_G := ((3, 1, (some .boolean), mc_22), aw_Sh, [ak_69, ak_37, ak_52, ak_86, ak_76, ak_74, ak_91, ak_84, ak_59, ak_67, ak_62, ak_50, ak_35, ak_29, ak_26, ak_9, ak_11], 0, ak_92.2.2.2.1, ak_92.2.2.2.2, [], [], [])
set_option maxRecDepth 1000000 in
theorem ac_92 : af_meth 24 ag_92 ak_92.2.2.1 = true := by decide +kernel
theorem aw_92 : af_wfK ak_92.2.1 ak_92.2.2.1 ak_92.2.2.2.2 ag_92.2.2.2.2.2.2.1 = true := by decide +kernel
theorem ah_92 : af_Holds aw_Sh 6 ak_92 := af_soundG (G := ag_92) (K := ak_92) (d := 5) pz_22 rfl rfl rfl rfl aw_92 ac_92 (af_HC ah_69 (by decide) (af_HC ah_37 (by decide) (af_HC ah_52 (by decide) (af_HC ah_86 (by decide) (af_HC ah_76 (by decide) (af_HC ah_74 (by decide) (af_HC ah_91 (by decide) (af_HC ah_84 (by decide) (af_HC ah_59 (by decide) (af_HC ah_67 (by decide) (af_HC ah_62 (by decide) (af_HC ah_50 (by decide) (af_HC ah_35 (by decide) (af_HC ah_29 (by decide) (af_HC ah_26 (by decide) (af_HC ah_9 (by decide) (af_HC ah_11 (by decide) af_HN)))))))))))))))))
def ag_93 : af_G := ((9, 2, (some .boolean), mc_105), aw_Sh, [ak_9, ak_11, ak_34], 1, ak_93.2.2.2.1, ak_93.2.2.2.2, [], [], [])
set_option maxRecDepth 1000000 in
theorem ac_93 : af_meth 14 ag_93 ak_93.2.2.1 = true := by decide +kernel
theorem aw_93 : af_wfK ak_93.2.1 ak_93.2.2.1 ak_93.2.2.2.2 ag_93.2.2.2.2.2.2.1 = true := by decide +kernel
theorem ah_93 : af_Holds aw_Sh 4 ak_93 := af_soundG (G := ag_93) (K := ak_93) (d := 3) pz_105 rfl rfl rfl rfl aw_93 ac_93 (af_HC ah_9 (by decide) (af_HC ah_11 (by decide) (af_HC ah_34 (by decide) af_HN)))
def ag_94 : af_G := ((3, 2, (some .int), mc_21), aw_Sh, [ak_3, ak_92, ak_10, ak_93], 0, ak_94.2.2.2.1, ak_94.2.2.2.2, [(19, (2, [(0, .inr (.inl 10)), (1, .inl (0, [0]))], [], [((1, 3), (900, [])), ((1, 5), (0, [1]))], ([(0, 0, 941), (1, 0, 4)], [], [])), [(1, 0, (0, [])), (2147483647, 1, (0, [0])), (0, 0, (0, []))])], [], [])
set_option maxRecDepth 1000000 in
theorem ac_94 : af_meth 23 ag_94 ak_94.2.2.1 = true := by decide +kernel
theorem aw_94 : af_wfK ak_94.2.1 ak_94.2.2.1 ak_94.2.2.2.2 ag_94.2.2.2.2.2.2.1 = true := by decide +kernel
theorem ah_94 : af_Holds aw_Sh 7 ak_94 := af_soundG (G := ag_94) (K := ak_94) (d := 6) pz_21 rfl rfl rfl rfl aw_94 ac_94 (af_HC ah_3 (by decide) (af_HC ah_92 (by decide) (af_HC ah_10 (by decide) (af_HC ah_93 (by decide) af_HN))))
def ag_95 : af_G := ((10, 2, none, mc_161), aw_Sh, [], 0, ak_95.2.2.2.1, ak_95.2.2.2.2, [], [], [])
set_option maxRecDepth 1000000 in
theorem ac_95 : af_meth 17 ag_95 ak_95.2.2.1 = true := by decide +kernel
theorem aw_95 : af_wfK ak_95.2.1 ak_95.2.2.1 ak_95.2.2.2.2 ag_95.2.2.2.2.2.2.1 = true := by decide +kernel
theorem ah_95 : af_Holds aw_Sh 1 ak_95 := af_soundG (G := ag_95) (K := ak_95) (d := 0) pz_161 rfl rfl rfl rfl aw_95 ac_95 af_HN
def ag_96 : af_G := ((2, 2, none, mc_11), aw_Sh, [ak_95], 0, ak_96.2.2.2.1, ak_96.2.2.2.2, [], [], [])
set_option maxRecDepth 1000000 in
theorem ac_96 : af_meth 26 ag_96 ak_96.2.2.1 = true := by decide +kernel
theorem aw_96 : af_wfK ak_96.2.1 ak_96.2.2.1 ak_96.2.2.2.2 ag_96.2.2.2.2.2.2.1 = true := by decide +kernel
theorem ah_96 : af_Holds aw_Sh 2 ak_96 := af_soundG (G := ag_96) (K := ak_96) (d := 1) pz_11 rfl rfl rfl rfl aw_96 ac_96 (af_HC ah_95 (by decide) af_HN)
def ag_97 : af_G := ((10, 2, (some .int), mc_159), aw_Sh, [], 1, ak_97.2.2.2.1, ak_97.2.2.2.2, [], [], [])
set_option maxRecDepth 1000000 in
theorem ac_97 : af_meth 17 ag_97 ak_97.2.2.1 = true := by decide +kernel
theorem aw_97 : af_wfK ak_97.2.1 ak_97.2.2.1 ak_97.2.2.2.2 ag_97.2.2.2.2.2.2.1 = true := by decide +kernel
theorem ah_97 : af_Holds aw_Sh 1 ak_97 := af_soundG (G := ag_97) (K := ak_97) (d := 0) pz_159 rfl rfl rfl rfl aw_97 ac_97 af_HN
def ag_98 : af_G := ((10, 2, (some .int), mc_159), aw_Sh, [], 0, ak_98.2.2.2.1, ak_98.2.2.2.2, [], [], [])
set_option maxRecDepth 1000000 in
theorem ac_98 : af_meth 17 ag_98 ak_98.2.2.1 = true := by decide +kernel
theorem aw_98 : af_wfK ak_98.2.1 ak_98.2.2.1 ak_98.2.2.2.2 ag_98.2.2.2.2.2.2.1 = true := by decide +kernel
theorem ah_98 : af_Holds aw_Sh 1 ak_98 := af_soundG (G := ag_98) (K := ak_98) (d := 0) pz_159 rfl rfl rfl rfl aw_98 ac_98 af_HN
def ag_99 : af_G := ((10, 3, none, mc_160), aw_Sh, [], 2, ak_99.2.2.2.1, ak_99.2.2.2.2, [], [], [])
set_option maxRecDepth 1000000 in
theorem ac_99 : af_meth 17 ag_99 ak_99.2.2.1 = true := by decide +kernel
theorem aw_99 : af_wfK ak_99.2.1 ak_99.2.2.1 ak_99.2.2.2.2 ag_99.2.2.2.2.2.2.1 = true := by decide +kernel
theorem ah_99 : af_Holds aw_Sh 1 ak_99 := af_soundG (G := ag_99) (K := ak_99) (d := 0) pz_160 rfl rfl rfl rfl aw_99 ac_99 af_HN
def ag_100 : af_G := ((10, 2, (some .int), mc_159), aw_Sh, [], 1, ak_100.2.2.2.1, ak_100.2.2.2.2, [], [], [])
set_option maxRecDepth 1000000 in
theorem ac_100 : af_meth 17 ag_100 ak_100.2.2.1 = true := by decide +kernel
theorem aw_100 : af_wfK ak_100.2.1 ak_100.2.2.1 ak_100.2.2.2.2 ag_100.2.2.2.2.2.2.1 = true := by decide +kernel
theorem ah_100 : af_Holds aw_Sh 1 ak_100 := af_soundG (G := ag_100) (K := ak_100) (d := 0) pz_159 rfl rfl rfl rfl aw_100 ac_100 af_HN
def ag_101 : af_G := ((10, 2, (some .int), mc_159), aw_Sh, [], 1, ak_101.2.2.2.1, ak_101.2.2.2.2, [], [], [])
set_option maxRecDepth 1000000 in
theorem ac_101 : af_meth 17 ag_101 ak_101.2.2.1 = true := by decide +kernel
theorem aw_101 : af_wfK ak_101.2.1 ak_101.2.2.1 ak_101.2.2.2.2 ag_101.2.2.2.2.2.2.1 = true := by decide +kernel
theorem ah_101 : af_Holds aw_Sh 1 ak_101 := af_soundG (G := ag_101) (K := ak_101) (d := 0) pz_159 rfl rfl rfl rfl aw_101 ac_101 af_HN
def ag_102 : af_G := ((10, 2, (some .int), mc_159), aw_Sh, [], 0, ak_102.2.2.2.1, ak_102.2.2.2.2, [], [], [])
set_option maxRecDepth 1000000 in
theorem ac_102 : af_meth 17 ag_102 ak_102.2.2.1 = true := by decide +kernel
theorem aw_102 : af_wfK ak_102.2.1 ak_102.2.2.1 ak_102.2.2.2.2 ag_102.2.2.2.2.2.2.1 = true := by decide +kernel
theorem ah_102 : af_Holds aw_Sh 1 ak_102 := af_soundG (G := ag_102) (K := ak_102) (d := 0) pz_159 rfl rfl rfl rfl aw_102 ac_102 af_HN
def ag_103 : af_G := ((10, 2, (some .int), mc_159), aw_Sh, [], 1, ak_103.2.2.2.1, ak_103.2.2.2.2, [], [], [])
set_option maxRecDepth 1000000 in
theorem ac_103 : af_meth 17 ag_103 ak_103.2.2.1 = true := by decide +kernel
theorem aw_103 : af_wfK ak_103.2.1 ak_103.2.2.1 ak_103.2.2.2.2 ag_103.2.2.2.2.2.2.1 = true := by decide +kernel
theorem ah_103 : af_Holds aw_Sh 1 ak_103 := af_soundG (G := ag_103) (K := ak_103) (d := 0) pz_159 rfl rfl rfl rfl aw_103 ac_103 af_HN
def ag_104 : af_G := ((10, 2, (some .int), mc_159), aw_Sh, [], 1, ak_104.2.2.2.1, ak_104.2.2.2.2, [], [], [])
set_option maxRecDepth 1000000 in
theorem ac_104 : af_meth 17 ag_104 ak_104.2.2.1 = true := by decide +kernel
theorem aw_104 : af_wfK ak_104.2.1 ak_104.2.2.1 ak_104.2.2.2.2 ag_104.2.2.2.2.2.2.1 = true := by decide +kernel
theorem ah_104 : af_Holds aw_Sh 1 ak_104 := af_soundG (G := ag_104) (K := ak_104) (d := 0) pz_159 rfl rfl rfl rfl aw_104 ac_104 af_HN
def ag_105 : af_G := ((10, 2, (some .int), mc_159), aw_Sh, [], 1, ak_105.2.2.2.1, ak_105.2.2.2.2, [], [], [])
set_option maxRecDepth 1000000 in
theorem ac_105 : af_meth 17 ag_105 ak_105.2.2.1 = true := by decide +kernel
theorem aw_105 : af_wfK ak_105.2.1 ak_105.2.2.1 ak_105.2.2.2.2 ag_105.2.2.2.2.2.2.1 = true := by decide +kernel
theorem ah_105 : af_Holds aw_Sh 1 ak_105 := af_soundG (G := ag_105) (K := ak_105) (d := 0) pz_159 rfl rfl rfl rfl aw_105 ac_105 af_HN
def ag_106 : af_G := ((10, 2, (some .int), mc_159), aw_Sh, [], 1, ak_106.2.2.2.1, ak_106.2.2.2.2, [], [], [])
set_option maxRecDepth 1000000 in
theorem ac_106 : af_meth 17 ag_106 ak_106.2.2.1 = true := by decide +kernel
theorem aw_106 : af_wfK ak_106.2.1 ak_106.2.2.1 ak_106.2.2.2.2 ag_106.2.2.2.2.2.2.1 = true := by decide +kernel
theorem ah_106 : af_Holds aw_Sh 1 ak_106 := af_soundG (G := ag_106) (K := ak_106) (d := 0) pz_159 rfl rfl rfl rfl aw_106 ac_106 af_HN
def ag_107 : af_G := ((10, 2, (some .int), mc_159), aw_Sh, [], 1, ak_107.2.2.2.1, ak_107.2.2.2.2, [], [], [])
set_option maxRecDepth 1000000 in
theorem ac_107 : af_meth 17 ag_107 ak_107.2.2.1 = true := by decide +kernel
theorem aw_107 : af_wfK ak_107.2.1 ak_107.2.2.1 ak_107.2.2.2.2 ag_107.2.2.2.2.2.2.1 = true := by decide +kernel
theorem ah_107 : af_Holds aw_Sh 1 ak_107 := af_soundG (G := ag_107) (K := ak_107) (d := 0) pz_159 rfl rfl rfl rfl aw_107 ac_107 af_HN
def ag_108 : af_G := ((10, 2, (some .int), mc_159), aw_Sh, [], 1, ak_108.2.2.2.1, ak_108.2.2.2.2, [], [], [])
set_option maxRecDepth 1000000 in
theorem ac_108 : af_meth 17 ag_108 ak_108.2.2.1 = true := by decide +kernel
theorem aw_108 : af_wfK ak_108.2.1 ak_108.2.2.1 ak_108.2.2.2.2 ag_108.2.2.2.2.2.2.1 = true := by decide +kernel
theorem ah_108 : af_Holds aw_Sh 1 ak_108 := af_soundG (G := ag_108) (K := ak_108) (d := 0) pz_159 rfl rfl rfl rfl aw_108 ac_108 af_HN
def ag_109 : af_G := ((10, 2, (some .int), mc_159), aw_Sh, [], 1, ak_109.2.2.2.1, ak_109.2.2.2.2, [], [], [])
set_option maxRecDepth 1000000 in
theorem ac_109 : af_meth 17 ag_109 ak_109.2.2.1 = true := by decide +kernel
theorem aw_109 : af_wfK ak_109.2.1 ak_109.2.2.1 ak_109.2.2.2.2 ag_109.2.2.2.2.2.2.1 = true := by decide +kernel
theorem ah_109 : af_Holds aw_Sh 1 ak_109 := af_soundG (G := ag_109) (K := ak_109) (d := 0) pz_159 rfl rfl rfl rfl aw_109 ac_109 af_HN
def ag_110 : af_G := ((4, 7, none, mc_42), aw_Sh, [ak_108, ak_109, ak_99], 2, ak_110.2.2.2.1, ak_110.2.2.2.2, [], [], [])
set_option maxRecDepth 1000000 in
theorem ac_110 : af_meth 93 ag_110 ak_110.2.2.1 = true := by decide +kernel
theorem aw_110 : af_wfK ak_110.2.1 ak_110.2.2.1 ak_110.2.2.2.2 ag_110.2.2.2.2.2.2.1 = true := by decide +kernel
theorem ah_110 : af_Holds aw_Sh 2 ak_110 := af_soundG (G := ag_110) (K := ak_110) (d := 1) pz_42 rfl rfl rfl rfl aw_110 ac_110 (af_HC ah_108 (by decide) (af_HC ah_109 (by decide) (af_HC ah_99 (by decide) af_HN)))
def ag_111 : af_G := ((4, 4, none, mc_41), aw_Sh, [ak_110, ak_108], 1, ak_111.2.2.2.1, ak_111.2.2.2.2, [(39, (3, [(0, .inr (.inl 11)), (1, .inl (0, [0])), (2, .inl (0, [1])), (3, .inl (0, [2]))], [], [], ([(1, (-2147483648), 2147483647), (2, 0, 6), (0, (-2147483648), 2147483647)], [], [])), [(1, 0, (0, [])), (2147483647, 1, (0, [2])), (0, 0, (0, []))])], [], [])
set_option maxRecDepth 1000000 in
theorem ac_111 : af_meth 28 ag_111 ak_111.2.2.1 = true := by decide +kernel
theorem aw_111 : af_wfK ak_111.2.1 ak_111.2.2.1 ak_111.2.2.2.2 ag_111.2.2.2.2.2.2.1 = true := by decide +kernel
theorem ah_111 : af_Holds aw_Sh 3 ak_111 := af_soundG (G := ag_111) (K := ak_111) (d := 2) pz_41 rfl rfl rfl rfl aw_111 ac_111 (af_HC ah_110 (by decide) (af_HC ah_108 (by decide) af_HN))
def ag_112 : af_G := ((4, 2, none, mc_37), aw_Sh, [ak_111, ak_98, ak_102, ak_105, ak_100, ak_104, ak_107, ak_106, ak_101, ak_103, ak_97, ak_99], 0, ak_112.2.2.2.1, ak_112.2.2.2.2, [(2, (1, [(0, .inr (.inl 11)), (1, .inl (0, [0]))], [], [], ([(0, 0, 114)], [], [])), [(4, 0, (0, [])), (2147483647, 1, (0, [0])), (0, 0, (0, []))]),
  (26, (1, [(0, .inr (.inl 11)), (1, .inl (0, [0]))], [], [], ([(0, 0, 10)], [], [])), [(3, 0, (0, [])), (2147483647, 1, (0, [0])), (0, 0, (0, []))]),
  (68, (1, [(0, .inr (.inl 11)), (1, .inl (0, [0]))], [], [], ([(0, 0, 6)], [], [])), [(2, 0, (0, [])), (2147483647, 1, (0, [0])), (0, 0, (0, []))]),
  (109, (1, [(0, .inr (.inl 11)), (1, .inl (0, [0]))], [], [], ([(0, 0, 6)], [], [])), [(1, 0, (0, [])), (2147483647, 1, (0, [0])), (0, 0, (0, []))])], [], [])
set_option maxRecDepth 1000000 in
theorem ac_112 : af_meth 26 ag_112 ak_112.2.2.1 = true := by decide +kernel
theorem aw_112 : af_wfK ak_112.2.1 ak_112.2.2.1 ak_112.2.2.2.2 ag_112.2.2.2.2.2.2.1 = true := by decide +kernel
theorem ah_112 : af_Holds aw_Sh 4 ak_112 := af_soundG (G := ag_112) (K := ak_112) (d := 3) pz_37 rfl rfl rfl rfl aw_112 ac_112 (af_HC ah_111 (by decide) (af_HC ah_98 (by decide) (af_HC ah_102 (by decide) (af_HC ah_105 (by decide) (af_HC ah_100 (by decide) (af_HC ah_104 (by decide) (af_HC ah_107 (by decide) (af_HC ah_106 (by decide) (af_HC ah_101 (by decide) (af_HC ah_103 (by decide) (af_HC ah_97 (by decide) (af_HC ah_99 (by decide) af_HN))))))))))))
def ag_113 : af_G := ((7, 1, none, mc_80), aw_Sh, [], 0, ak_113.2.2.2.1, ak_113.2.2.2.2, [], [], [])
set_option maxRecDepth 1000000 in
theorem ac_113 : af_meth 10 ag_113 ak_113.2.2.1 = true := by decide +kernel
theorem aw_113 : af_wfK ak_113.2.1 ak_113.2.2.1 ak_113.2.2.2.2 ag_113.2.2.2.2.2.2.1 = true := by decide +kernel
theorem ah_113 : af_Holds aw_Sh 1 ak_113 := af_soundG (G := ag_113) (K := ak_113) (d := 0) pz_80 rfl rfl rfl rfl aw_113 ac_113 af_HN
def ag_114 : af_G := ((5, 1, none, mc_71), aw_Sh, [], 0, ak_114.2.2.2.1, ak_114.2.2.2.2, [], [], [])
set_option maxRecDepth 1000000 in
theorem ac_114 : af_meth 10 ag_114 ak_114.2.2.1 = true := by decide +kernel
theorem aw_114 : af_wfK ak_114.2.1 ak_114.2.2.1 ak_114.2.2.2.2 ag_114.2.2.2.2.2.2.1 = true := by decide +kernel
theorem ah_114 : af_Holds aw_Sh 1 ak_114 := af_soundG (G := ag_114) (K := ak_114) (d := 0) pz_71 rfl rfl rfl rfl aw_114 ac_114 af_HN
def ag_115 : af_G := ((10, 2, (some .int), mc_113), aw_Sh, [ak_96, ak_94, ak_112, ak_114, ak_113], 0, ak_115.2.2.2.1, ak_115.2.2.2.2, [], [], [])
set_option maxRecDepth 1000000 in
theorem ac_115 : af_meth 33 ag_115 ak_115.2.2.1 = true := by decide +kernel
theorem aw_115 : af_wfK ak_115.2.1 ak_115.2.2.1 ak_115.2.2.2.2 ag_115.2.2.2.2.2.2.1 = true := by decide +kernel
theorem ah_115 : af_Holds aw_Sh 8 ak_115 := af_soundG (G := ag_115) (K := ak_115) (d := 7) pz_113 rfl rfl rfl rfl aw_115 ac_115 (af_HC ah_96 (by decide) (af_HC ah_94 (by decide) (af_HC ah_112 (by decide) (af_HC ah_114 (by decide) (af_HC ah_113 (by decide) af_HN)))))
def ag_116 : af_G := ((10, 1, (some .int), mc_114), aw_Sh, [], 0, ak_116.2.2.2.1, ak_116.2.2.2.2, [], [], [])
set_option maxRecDepth 1000000 in
theorem ac_116 : af_meth 10 ag_116 ak_116.2.2.1 = true := by decide +kernel
theorem aw_116 : af_wfK ak_116.2.1 ak_116.2.2.1 ak_116.2.2.2.2 ag_116.2.2.2.2.2.2.1 = true := by decide +kernel
theorem ah_116 : af_Holds aw_Sh 1 ak_116 := af_soundG (G := ag_116) (K := ak_116) (d := 0) pz_114 rfl rfl rfl rfl aw_116 ac_116 af_HN
def ag_117 : af_G := ((10, 3, (some .boolean), mc_152), aw_Sh, [ak_109], 2, ak_117.2.2.2.1, ak_117.2.2.2.2, [], [], [])
set_option maxRecDepth 1000000 in
theorem ac_117 : af_meth 18 ag_117 ak_117.2.2.1 = true := by decide +kernel
theorem aw_117 : af_wfK ak_117.2.1 ak_117.2.2.1 ak_117.2.2.2.2 ag_117.2.2.2.2.2.2.1 = true := by decide +kernel
theorem ah_117 : af_Holds aw_Sh 2 ak_117 := af_soundG (G := ag_117) (K := ak_117) (d := 1) pz_152 rfl rfl rfl rfl aw_117 ac_117 (af_HC ah_109 (by decide) af_HN)
def ag_118 : af_G := ((4, 4, (some .int), mc_69), aw_Sh, [ak_97, ak_108], 1, ak_118.2.2.2.1, ak_118.2.2.2.2, [(4, (3, [(0, .inr (.inl 11)), (1, .inl (0, [0])), (2, .inl (0, [1])), (3, .inl (0, [2]))], [], [], ([(1, (-2147483648), 2147483647), (2, 0, 10), (0, (-2147483648), 2147483647)], [], [])), [(1, 0, (0, [])), (2147483647, 1, (0, [2])), (0, 0, (0, []))])], [], [])
set_option maxRecDepth 1000000 in
theorem ac_118 : af_meth 29 ag_118 ak_118.2.2.1 = true := by decide +kernel
theorem aw_118 : af_wfK ak_118.2.1 ak_118.2.2.1 ak_118.2.2.2.2 ag_118.2.2.2.2.2.2.1 = true := by decide +kernel
theorem ah_118 : af_Holds aw_Sh 2 ak_118 := af_soundG (G := ag_118) (K := ak_118) (d := 1) pz_69 rfl rfl rfl rfl aw_118 ac_118 (af_HC ah_97 (by decide) (af_HC ah_108 (by decide) af_HN))
def ag_119 : af_G := ((4, 2, (some .int), mc_68), aw_Sh, [ak_118], 1, ak_119.2.2.2.1, ak_119.2.2.2.2, [], [], [])
set_option maxRecDepth 1000000 in
theorem ac_119 : af_meth 12 ag_119 ak_119.2.2.1 = true := by decide +kernel
theorem aw_119 : af_wfK ak_119.2.1 ak_119.2.2.1 ak_119.2.2.2.2 ag_119.2.2.2.2.2.2.1 = true := by decide +kernel
theorem ah_119 : af_Holds aw_Sh 3 ak_119 := af_soundG (G := ag_119) (K := ak_119) (d := 2) pz_68 rfl rfl rfl rfl aw_119 ac_119 (af_HC ah_118 (by decide) af_HN)
