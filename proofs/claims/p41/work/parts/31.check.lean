/-! the checks; by program -/
def ag_0 : af_G := ((9, 3, none, mc_95), aw_Sh, [], 1, ak_0.2.2.2.1, ak_0.2.2.2.2, [(3, (2, [(0, .inr (.inl 1)), (1, .inl (0, [0])), (2, .inl (0, [1]))], [], [], ([(1, (-8), 24), (0, (-2147483648), 2147483647)], [], [])), [(1, 0, (0, [])), (2147483648, 2, (0, [1])), (0, 0, (0, []))])], [], [])
set_option maxRecDepth 1000000 in
theorem ac_0 : af_meth 34 ag_0 ak_0.2.2.1 = true := by decide +kernel
def ag_1 : af_G := ((10, 6, (some .int), mc_111), aw_Sh, [ak_0], 5, ak_1.2.2.2.1, ak_1.2.2.2.2, [], [], [])
set_option maxRecDepth 1000000 in
theorem ac_1 : af_meth 37 ag_1 ak_1.2.2.1 = true := by decide +kernel
def ag_2 : af_G := ((10, 2, (some .boolean), mc_112), aw_Sh, [], 1, ak_2.2.2.2.1, ak_2.2.2.2.2, [], [], [])
set_option maxRecDepth 1000000 in
theorem ac_2 : af_meth 19 ag_2 ak_2.2.2.1 = true := by decide +kernel
def ag_3 : af_G := ((2, 2, none, mc_10), aw_Sh, [], 0, ak_3.2.2.2.1, ak_3.2.2.2.2, [(2, (1, [(0, .inr (.inl 7)), (1, .inl (0, [0]))], [], [], ([(0, 0, 170)], [], [])), [(1, 0, (0, [])), (2147483647, 1, (0, [0])), (0, 0, (0, []))])], [], [])
set_option maxRecDepth 1000000 in
theorem ac_3 : af_meth 18 ag_3 ak_3.2.2.1 = true := by decide +kernel
def ag_4 : af_G := ((9, 2, (some .int), mc_96), aw_Sh, [], 1, ak_4.2.2.2.1, ak_4.2.2.2.2, [], [], [])
set_option maxRecDepth 1000000 in
theorem ac_4 : af_meth 21 ag_4 ak_4.2.2.1 = true := by decide +kernel
def ag_5 : af_G := ((9, 1, (some .boolean), mc_101), aw_Sh, [], 1, ak_5.2.2.2.1, ak_5.2.2.2.2, [], [], [])
set_option maxRecDepth 1000000 in
theorem ac_5 : af_meth 15 ag_5 ak_5.2.2.1 = true := by decide +kernel
def ag_6 : af_G := ((9, 1, (some .boolean), mc_102), aw_Sh, [], 1, ak_6.2.2.2.1, ak_6.2.2.2.2, [], [], [])
set_option maxRecDepth 1000000 in
theorem ac_6 : af_meth 15 ag_6 ak_6.2.2.1 = true := by decide +kernel
def ag_7 : af_G := ((9, 4, (some .int), mc_100), aw_Sh, [], 0, ak_7.2.2.2.1, ak_7.2.2.2.2, [(2, (1, [(0, .inr (.inl 1)), (1, .inr (.inr ())), (3, .inl (0, [0]))], [], [], ([(0, 0, 29)], [], [])), [(1, 0, (0, [])), (2147483647, 1, (0, [0])), (0, 0, (0, []))])], [], [])
set_option maxRecDepth 1000000 in
theorem ac_7 : af_meth 20 ag_7 ak_7.2.2.1 = true := by decide +kernel
def ag_8 : af_G := ((9, 6, none, mc_99), aw_Sh, [ak_4, ak_7, ak_5, ak_6], 1, ak_8.2.2.2.1, ak_8.2.2.2.2, [(7, (4, [(0, .inr (.inl 1)), (1, .inl (0, [0])), (2, .inl (0, [1])), (3, .inl (0, [2])), (4, .inl (0, [3]))], [], [], ([(1, (-2147483648), 2147483647), (2, (-2147483648), 2147483647), (3, (-2147483648), 2147483647), (0, (-2147483648), 2147483647)], [], [])), [(1, 0, (0, [])), (2147483647, 1, (0, [3])), (0, 0, (0, []))])], [], [])
set_option maxRecDepth 1000000 in
theorem ac_8 : af_meth 44 ag_8 ak_8.2.2.1 = true := by decide +kernel
def ag_9 : af_G := ((9, 3, none, mc_98), aw_Sh, [ak_4, ak_8, ak_5, ak_6], 0, ak_9.2.2.2.1, ak_9.2.2.2.2, [(5, (1, [(0, .inr (.inl 1)), (1, .inl (0, [0]))], [], [], ([(0, (-2147483648), 2147483647)], [], [])), [(1, 0, (0, [])), (2147483647, 1, (0, [0])), (0, 0, (0, []))])], [], [])
set_option maxRecDepth 1000000 in
theorem ac_9 : af_meth 81 ag_9 ak_9.2.2.1 = true := by decide +kernel
def ag_10 : af_G := ((9, 2, none, mc_97), aw_Sh, [ak_9], 1, ak_10.2.2.2.1, ak_10.2.2.2.2, [], [], [])
set_option maxRecDepth 1000000 in
theorem ac_10 : af_meth 21 ag_10 ak_10.2.2.1 = true := by decide +kernel
def ag_11 : af_G := ((9, 2, (some .boolean), mc_103), aw_Sh, [], 1, ak_11.2.2.2.1, ak_11.2.2.2.2, [], [], [])
set_option maxRecDepth 1000000 in
theorem ac_11 : af_meth 15 ag_11 ak_11.2.2.1 = true := by decide +kernel
def ag_12 : af_G := ((9, 1, (some .boolean), mc_107), aw_Sh, [], 0, ak_12.2.2.2.1, ak_12.2.2.2.2, [], [], [])
set_option maxRecDepth 1000000 in
theorem ac_12 : af_meth 17 ag_12 ak_12.2.2.1 = true := by decide +kernel
def ag_13 : af_G := ((10, 2, (some .int), mc_159), aw_Sh, [], 1, ak_13.2.2.2.1, ak_13.2.2.2.2, [], [], [])
set_option maxRecDepth 1000000 in
theorem ac_13 : af_meth 17 ag_13 ak_13.2.2.1 = true := by decide +kernel
def ag_14 : af_G := ((10, 2, (some .int), mc_159), aw_Sh, [], 0, ak_14.2.2.2.1, ak_14.2.2.2.2, [], [], [])
set_option maxRecDepth 1000000 in
theorem ac_14 : af_meth 17 ag_14 ak_14.2.2.1 = true := by decide +kernel
def ag_15 : af_G := ((10, 2, (some .int), mc_159), aw_Sh, [], 1, ak_15.2.2.2.1, ak_15.2.2.2.2, [], [], [])
set_option maxRecDepth 1000000 in
theorem ac_15 : af_meth 17 ag_15 ak_15.2.2.1 = true := by decide +kernel
def ag_16 : af_G := ((10, 2, (some .int), mc_159), aw_Sh, [], 1, ak_16.2.2.2.1, ak_16.2.2.2.2, [], [], [])
set_option maxRecDepth 1000000 in
theorem ac_16 : af_meth 17 ag_16 ak_16.2.2.1 = true := by decide +kernel
def ag_17 : af_G := ((10, 2, (some .int), mc_159), aw_Sh, [], 1, ak_17.2.2.2.1, ak_17.2.2.2.2, [], [], [])
set_option maxRecDepth 1000000 in
theorem ac_17 : af_meth 17 ag_17 ak_17.2.2.1 = true := by decide +kernel
def ag_18 : af_G := ((10, 2, (some .int), mc_159), aw_Sh, [], 1, ak_18.2.2.2.1, ak_18.2.2.2.2, [], [], [])
set_option maxRecDepth 1000000 in
theorem ac_18 : af_meth 17 ag_18 ak_18.2.2.1 = true := by decide +kernel
def ag_19 : af_G := ((10, 2, (some .int), mc_159), aw_Sh, [], 1, ak_19.2.2.2.1, ak_19.2.2.2.2, [], [], [])
set_option maxRecDepth 1000000 in
theorem ac_19 : af_meth 17 ag_19 ak_19.2.2.1 = true := by decide +kernel
def ag_20 : af_G := ((2, 5, (some .int), mc_13), aw_Sh, [ak_14, ak_16, ak_17, ak_15, ak_18, ak_19, ak_13], 1, ak_20.2.2.2.1, ak_20.2.2.2.2, [(3, (2, [(0, .inr (.inl 7)), (1, .inr (.inr ())), (3, .inl (0, [0])), (4, .inl (0, [1]))], [], [], ([(1, 0, 27), (0, (-2147483648), 2147483647)], [], [])), [(1, 0, (0, [])), (2147483647, 1, (0, [1])), (0, 0, (0, []))])], [], [])
set_option maxRecDepth 1000000 in
theorem ac_20 : af_meth 39 ag_20 ak_20.2.2.1 = true := by decide +kernel
def ag_21 : af_G := ((9, 4, (some .int), mc_108), aw_Sh, [ak_20, ak_11, ak_12], 1, ak_21.2.2.2.1, ak_21.2.2.2.2, [], [], [])
set_option maxRecDepth 1000000 in
theorem ac_21 : af_meth 24 ag_21 ak_21.2.2.1 = true := by decide +kernel
def ag_22 : af_G := ((9, 4, (some .int), mc_109), aw_Sh, [ak_9, ak_21], 1, ak_22.2.2.2.1, ak_22.2.2.2.2, [], [], [])
set_option maxRecDepth 1000000 in
theorem ac_22 : af_meth 18 ag_22 ak_22.2.2.1 = true := by decide +kernel
def ag_23 : af_G := ((10, 2, (some .int), mc_159), aw_Sh, [], 1, ak_23.2.2.2.1, ak_23.2.2.2.2, [], [], [])
set_option maxRecDepth 1000000 in
theorem ac_23 : af_meth 17 ag_23 ak_23.2.2.1 = true := by decide +kernel
def ag_24 : af_G := ((10, 3, none, mc_160), aw_Sh, [], 2, ak_24.2.2.2.1, ak_24.2.2.2.2, [], [], [])
set_option maxRecDepth 1000000 in
theorem ac_24 : af_meth 17 ag_24 ak_24.2.2.1 = true := by decide +kernel
def ag_25 : af_G := ((2, 3, none, mc_15), aw_Sh, [ak_23, ak_24], 2, ak_25.2.2.2.1, ak_25.2.2.2.2, [], [], [])
set_option maxRecDepth 1000000 in
theorem ac_25 : af_meth 17 ag_25 ak_25.2.2.1 = true := by decide +kernel
def ag_26 : af_G := ((3, 3, (some .boolean), mc_34), aw_Sh, [ak_25, ak_9, ak_11, ak_21, ak_22, ak_23], 0, ak_26.2.2.2.1, ak_26.2.2.2.2, [], [], [])
set_option maxRecDepth 1000000 in
theorem ac_26 : af_meth 53 ag_26 ak_26.2.2.1 = true := by decide +kernel
def ag_27 : af_G := ((10, 2, (some .int), mc_159), aw_Sh, [], 1, ak_27.2.2.2.1, ak_27.2.2.2.2, [], [], [])
set_option maxRecDepth 1000000 in
theorem ac_27 : af_meth 17 ag_27 ak_27.2.2.1 = true := by decide +kernel
def ag_28 : af_G := ((10, 3, none, mc_160), aw_Sh, [], 2, ak_28.2.2.2.1, ak_28.2.2.2.2, [], [], [])
set_option maxRecDepth 1000000 in
theorem ac_28 : af_meth 17 ag_28 ak_28.2.2.1 = true := by decide +kernel
def ag_29 : af_G := ((3, 3, (some .boolean), mc_33), aw_Sh, [ak_9, ak_11, ak_21, ak_27, ak_28], 0, ak_29.2.2.2.1, ak_29.2.2.2.2, [], [], [])
set_option maxRecDepth 1000000 in
theorem ac_29 : af_meth 54 ag_29 ak_29.2.2.1 = true := by decide +kernel
def ag_30 : af_G := ((10, 2, (some .int), mc_159), aw_Sh, [], 1, ak_30.2.2.2.1, ak_30.2.2.2.2, [], [], [])
set_option maxRecDepth 1000000 in
theorem ac_30 : af_meth 17 ag_30 ak_30.2.2.1 = true := by decide +kernel
def ag_31 : af_G := ((10, 3, none, mc_160), aw_Sh, [], 2, ak_31.2.2.2.1, ak_31.2.2.2.2, [], [], [])
set_option maxRecDepth 1000000 in
theorem ac_31 : af_meth 17 ag_31 ak_31.2.2.1 = true := by decide +kernel
def ag_32 : af_G := ((10, 3, none, mc_160), aw_Sh, [], 2, ak_32.2.2.2.1, ak_32.2.2.2.2, [], [], [])
set_option maxRecDepth 1000000 in
theorem ac_32 : af_meth 17 ag_32 ak_32.2.2.1 = true := by decide +kernel
def ag_33 : af_G := ((3, 4, (some .boolean), mc_32), aw_Sh, [ak_9, ak_11, ak_21, ak_30, ak_32, ak_31], 1, ak_33.2.2.2.1, ak_33.2.2.2.2, [], [], [])
set_option maxRecDepth 1000000 in
theorem ac_33 : af_meth 54 ag_33 ak_33.2.2.1 = true := by decide +kernel
def ag_34 : af_G := ((9, 2, (some .boolean), mc_104), aw_Sh, [], 1, ak_34.2.2.2.1, ak_34.2.2.2.2, [], [], [])
set_option maxRecDepth 1000000 in
theorem ac_34 : af_meth 17 ag_34 ak_34.2.2.1 = true := by decide +kernel
def ag_35 : af_G := ((3, 3, (some .boolean), mc_31), aw_Sh, [ak_33, ak_9, ak_11, ak_34, ak_21, ak_30], 0, ak_35.2.2.2.1, ak_35.2.2.2.2, [(65, (3, [(0, .inr (.inl 10)), (1, .inl (0, [0])), (2, .inl (0, [1]))], [], [((1, 5), (0, [2]))], ([(0, 0, 10), (1, 0, 9), (2, 0, 4)], [], [])), [(1, 0, (0, [])), (2147483647, 1, (0, [1])), (0, 0, (0, []))])], [], [])
set_option maxRecDepth 1000000 in
theorem ac_35 : af_meth 33 ag_35 ak_35.2.2.1 = true := by decide +kernel
def ag_36 : af_G := ((10, 2, (some .int), mc_159), aw_Sh, [], 1, ak_36.2.2.2.1, ak_36.2.2.2.2, [], [], [])
set_option maxRecDepth 1000000 in
theorem ac_36 : af_meth 17 ag_36 ak_36.2.2.1 = true := by decide +kernel
def ag_37 : af_G := ((3, 3, (some .boolean), mc_23), aw_Sh, [ak_9, ak_11, ak_36], 1, ak_37.2.2.2.1, ak_37.2.2.2.2, [], [], [])
set_option maxRecDepth 1000000 in
theorem ac_37 : af_meth 18 ag_37 ak_37.2.2.1 = true := by decide +kernel
def ag_38 : af_G := ((2, 4, (some .boolean), mc_12), aw_Sh, [ak_13], 0, ak_38.2.2.2.1, ak_38.2.2.2.2, [(2, (1, [(0, .inr (.inl 7)), (1, .inr (.inr ())), (3, .inl (0, [0]))], [], [], ([(0, 0, 27)], [], [])), [(1, 0, (0, [])), (2147483647, 1, (0, [0])), (0, 0, (0, []))])], [], [])
set_option maxRecDepth 1000000 in
theorem ac_38 : af_meth 26 ag_38 ak_38.2.2.1 = true := by decide +kernel
def ag_39 : af_G := ((10, 2, (some .int), mc_159), aw_Sh, [], 1, ak_39.2.2.2.1, ak_39.2.2.2.2, [], [], [])
set_option maxRecDepth 1000000 in
theorem ac_39 : af_meth 17 ag_39 ak_39.2.2.1 = true := by decide +kernel
def ag_40 : af_G := ((10, 3, none, mc_160), aw_Sh, [], 2, ak_40.2.2.2.1, ak_40.2.2.2.2, [], [], [])
set_option maxRecDepth 1000000 in
theorem ac_40 : af_meth 17 ag_40 ak_40.2.2.1 = true := by decide +kernel
def ag_41 : af_G := ((10, 3, none, mc_160), aw_Sh, [], 2, ak_41.2.2.2.1, ak_41.2.2.2.2, [], [], [])
set_option maxRecDepth 1000000 in
theorem ac_41 : af_meth 17 ag_41 ak_41.2.2.1 = true := by decide +kernel
def ag_42 : af_G := ((10, 3, none, mc_160), aw_Sh, [], 1, ak_42.2.2.2.1, ak_42.2.2.2.2, [], [], [])
set_option maxRecDepth 1000000 in
theorem ac_42 : af_meth 17 ag_42 ak_42.2.2.1 = true := by decide +kernel
def ag_43 : af_G := ((10, 3, none, mc_160), aw_Sh, [], 1, ak_43.2.2.2.1, ak_43.2.2.2.2, [], [], [])
set_option maxRecDepth 1000000 in
theorem ac_43 : af_meth 17 ag_43 ak_43.2.2.1 = true := by decide +kernel
def ag_44 : af_G := ((2, 6, (some .int), mc_14), aw_Sh, [ak_39, ak_13, ak_43, ak_42, ak_41, ak_40], 2, ak_44.2.2.2.1, ak_44.2.2.2.2, [], [], [])
set_option maxRecDepth 1000000 in
theorem ac_44 : af_meth 58 ag_44 ak_44.2.2.1 = true := by decide +kernel
def ag_45 : af_G := ((3, 3, (some .int), mc_24), aw_Sh, [ak_38, ak_44, ak_9, ak_11, ak_12], 1, ak_45.2.2.2.1, ak_45.2.2.2.2, [], [], [])
set_option maxRecDepth 1000000 in
theorem ac_45 : af_meth 30 ag_45 ak_45.2.2.1 = true := by decide +kernel
def ag_46 : af_G := ((9, 4, (some .int), mc_106), aw_Sh, [ak_9, ak_11], 2, ak_46.2.2.2.1, ak_46.2.2.2.2, [], [], [])
set_option maxRecDepth 1000000 in
theorem ac_46 : af_meth 25 ag_46 ak_46.2.2.1 = true := by decide +kernel
def ag_47 : af_G := ((10, 3, none, mc_160), aw_Sh, [], 2, ak_47.2.2.2.1, ak_47.2.2.2.2, [], [], [])
set_option maxRecDepth 1000000 in
theorem ac_47 : af_meth 17 ag_47 ak_47.2.2.1 = true := by decide +kernel
def ag_48 : af_G := ((10, 3, none, mc_160), aw_Sh, [], 2, ak_48.2.2.2.1, ak_48.2.2.2.2, [], [], [])
set_option maxRecDepth 1000000 in
theorem ac_48 : af_meth 17 ag_48 ak_48.2.2.1 = true := by decide +kernel
def ag_49 : af_G := ((10, 3, none, mc_160), aw_Sh, [], 2, ak_49.2.2.2.1, ak_49.2.2.2.2, [], [], [])
set_option maxRecDepth 1000000 in
theorem ac_49 : af_meth 17 ag_49 ak_49.2.2.1 = true := by decide +kernel
def ag_50 : af_G := ((3, 4, (some .boolean), mc_30), aw_Sh, [ak_45, ak_46, ak_22, ak_47, ak_48, ak_49], 1, ak_50.2.2.2.1, ak_50.2.2.2.2, [], [], [])
set_option maxRecDepth 1000000 in
theorem ac_50 : af_meth 58 ag_50 ak_50.2.2.1 = true := by decide +kernel
def ag_51 : af_G := ((10, 2, (some .int), mc_159), aw_Sh, [], 1, ak_51.2.2.2.1, ak_51.2.2.2.2, [], [], [])
set_option maxRecDepth 1000000 in
theorem ac_51 : af_meth 17 ag_51 ak_51.2.2.1 = true := by decide +kernel
def ag_52 : af_G := ((3, 3, (some .boolean), mc_23), aw_Sh, [ak_9, ak_11, ak_51], 1, ak_52.2.2.2.1, ak_52.2.2.2.2, [], [], [])
set_option maxRecDepth 1000000 in
theorem ac_52 : af_meth 18 ag_52 ak_52.2.2.1 = true := by decide +kernel
def ag_53 : af_G := ((10, 2, (some .int), mc_159), aw_Sh, [], 1, ak_53.2.2.2.1, ak_53.2.2.2.2, [], [], [])
set_option maxRecDepth 1000000 in
theorem ac_53 : af_meth 17 ag_53 ak_53.2.2.1 = true := by decide +kernel
def ag_54 : af_G := ((10, 3, none, mc_160), aw_Sh, [], 1, ak_54.2.2.2.1, ak_54.2.2.2.2, [], [], [])
set_option maxRecDepth 1000000 in
theorem ac_54 : af_meth 17 ag_54 ak_54.2.2.1 = true := by decide +kernel
def ag_55 : af_G := ((2, 6, (some .int), mc_14), aw_Sh, [ak_53, ak_13, ak_54, ak_42, ak_41, ak_40], 2, ak_55.2.2.2.1, ak_55.2.2.2.2, [], [], [])
set_option maxRecDepth 1000000 in
theorem ac_55 : af_meth 58 ag_55 ak_55.2.2.1 = true := by decide +kernel
def ag_56 : af_G := ((3, 3, (some .int), mc_24), aw_Sh, [ak_38, ak_55, ak_9, ak_11, ak_12], 1, ak_56.2.2.2.1, ak_56.2.2.2.2, [], [], [])
set_option maxRecDepth 1000000 in
theorem ac_56 : af_meth 30 ag_56 ak_56.2.2.1 = true := by decide +kernel
def ag_57 : af_G := ((10, 3, none, mc_160), aw_Sh, [], 2, ak_57.2.2.2.1, ak_57.2.2.2.2, [], [], [])
set_option maxRecDepth 1000000 in
theorem ac_57 : af_meth 17 ag_57 ak_57.2.2.1 = true := by decide +kernel
def ag_58 : af_G := ((10, 3, none, mc_160), aw_Sh, [], 2, ak_58.2.2.2.1, ak_58.2.2.2.2, [], [], [])
set_option maxRecDepth 1000000 in
theorem ac_58 : af_meth 17 ag_58 ak_58.2.2.1 = true := by decide +kernel
def ag_59 : af_G := ((3, 3, (some .boolean), mc_26), aw_Sh, [ak_56, ak_46, ak_57, ak_58], 1, ak_59.2.2.2.1, ak_59.2.2.2.2, [], [], [])
set_option maxRecDepth 1000000 in
theorem ac_59 : af_meth 41 ag_59 ak_59.2.2.1 = true := by decide +kernel
def ag_60 : af_G := ((10, 2, (some .int), mc_159), aw_Sh, [], 1, ak_60.2.2.2.1, ak_60.2.2.2.2, [], [], [])
set_option maxRecDepth 1000000 in
theorem ac_60 : af_meth 17 ag_60 ak_60.2.2.1 = true := by decide +kernel
def ag_61 : af_G := ((10, 3, none, mc_160), aw_Sh, [], 2, ak_61.2.2.2.1, ak_61.2.2.2.2, [], [], [])
set_option maxRecDepth 1000000 in
theorem ac_61 : af_meth 17 ag_61 ak_61.2.2.1 = true := by decide +kernel
def ag_62 : af_G := ((3, 3, (some .boolean), mc_29), aw_Sh, [ak_9, ak_11, ak_21, ak_51, ak_60, ak_61], 0, ak_62.2.2.2.1, ak_62.2.2.2.2, [], [], [])
set_option maxRecDepth 1000000 in
theorem ac_62 : af_meth 49 ag_62 ak_62.2.2.1 = true := by decide +kernel
def ag_63 : af_G := ((10, 2, (some .int), mc_159), aw_Sh, [], 1, ak_63.2.2.2.1, ak_63.2.2.2.2, [], [], [])
set_option maxRecDepth 1000000 in
theorem ac_63 : af_meth 17 ag_63 ak_63.2.2.1 = true := by decide +kernel
def ag_64 : af_G := ((10, 3, none, mc_160), aw_Sh, [], 2, ak_64.2.2.2.1, ak_64.2.2.2.2, [], [], [])
set_option maxRecDepth 1000000 in
theorem ac_64 : af_meth 17 ag_64 ak_64.2.2.1 = true := by decide +kernel
def ag_65 : af_G := ((2, 3, none, mc_15), aw_Sh, [ak_63, ak_64], 2, ak_65.2.2.2.1, ak_65.2.2.2.2, [], [], [])
set_option maxRecDepth 1000000 in
theorem ac_65 : af_meth 17 ag_65 ak_65.2.2.1 = true := by decide +kernel
def ag_66 : af_G := ((3, 3, (some .boolean), mc_28), aw_Sh, [ak_65, ak_9, ak_11, ak_21, ak_63], 1, ak_66.2.2.2.1, ak_66.2.2.2.2, [], [], [])
set_option maxRecDepth 1000000 in
theorem ac_66 : af_meth 43 ag_66 ak_66.2.2.1 = true := by decide +kernel
def ag_67 : af_G := ((3, 3, (some .boolean), mc_27), aw_Sh, [ak_66, ak_34, ak_51], 0, ak_67.2.2.2.1, ak_67.2.2.2.2, [(26, (3, [(0, .inr (.inl 10)), (1, .inl (0, [0])), (2, .inl (0, [1]))], [], [((1, 5), (0, [2]))], ([(0, (-1), 5), (1, 0, 5), (2, 0, 4)], [], [])), [(1, 0, (0, [])), (2147483647, 1, (0, [1])), (0, 0, (0, []))])], [], [])
set_option maxRecDepth 1000000 in
theorem ac_67 : af_meth 20 ag_67 ak_67.2.2.1 = true := by decide +kernel
def ag_68 : af_G := ((10, 2, (some .int), mc_159), aw_Sh, [], 1, ak_68.2.2.2.1, ak_68.2.2.2.2, [], [], [])
set_option maxRecDepth 1000000 in
theorem ac_68 : af_meth 17 ag_68 ak_68.2.2.1 = true := by decide +kernel
def ag_69 : af_G := ((3, 3, (some .boolean), mc_23), aw_Sh, [ak_9, ak_11, ak_68], 1, ak_69.2.2.2.1, ak_69.2.2.2.2, [], [], [])
set_option maxRecDepth 1000000 in
theorem ac_69 : af_meth 18 ag_69 ak_69.2.2.1 = true := by decide +kernel
def ag_70 : af_G := ((10, 2, (some .int), mc_159), aw_Sh, [], 1, ak_70.2.2.2.1, ak_70.2.2.2.2, [], [], [])
set_option maxRecDepth 1000000 in
theorem ac_70 : af_meth 17 ag_70 ak_70.2.2.1 = true := by decide +kernel
def ag_71 : af_G := ((10, 3, none, mc_160), aw_Sh, [], 2, ak_71.2.2.2.1, ak_71.2.2.2.2, [], [], [])
set_option maxRecDepth 1000000 in
theorem ac_71 : af_meth 17 ag_71 ak_71.2.2.1 = true := by decide +kernel
def ag_72 : af_G := ((10, 3, none, mc_160), aw_Sh, [], 1, ak_72.2.2.2.1, ak_72.2.2.2.2, [], [], [])
set_option maxRecDepth 1000000 in
theorem ac_72 : af_meth 17 ag_72 ak_72.2.2.1 = true := by decide +kernel
def ag_73 : af_G := ((2, 6, (some .int), mc_14), aw_Sh, [ak_70, ak_13, ak_72, ak_42, ak_71, ak_40], 2, ak_73.2.2.2.1, ak_73.2.2.2.2, [], [], [])
set_option maxRecDepth 1000000 in
theorem ac_73 : af_meth 58 ag_73 ak_73.2.2.1 = true := by decide +kernel
def ag_74 : af_G := ((3, 3, (some .int), mc_24), aw_Sh, [ak_38, ak_73, ak_9, ak_11, ak_12], 1, ak_74.2.2.2.1, ak_74.2.2.2.2, [], [], [])
set_option maxRecDepth 1000000 in
theorem ac_74 : af_meth 30 ag_74 ak_74.2.2.1 = true := by decide +kernel
def ag_75 : af_G := ((10, 2, (some .int), mc_159), aw_Sh, [], 1, ak_75.2.2.2.1, ak_75.2.2.2.2, [], [], [])
set_option maxRecDepth 1000000 in
theorem ac_75 : af_meth 17 ag_75 ak_75.2.2.1 = true := by decide +kernel
def ag_76 : af_G := ((3, 3, (some .boolean), mc_23), aw_Sh, [ak_9, ak_11, ak_75], 1, ak_76.2.2.2.1, ak_76.2.2.2.2, [], [], [])
set_option maxRecDepth 1000000 in
theorem ac_76 : af_meth 18 ag_76 ak_76.2.2.1 = true := by decide +kernel
def ag_77 : af_G := ((10, 2, (some .int), mc_159), aw_Sh, [], 1, ak_77.2.2.2.1, ak_77.2.2.2.2, [], [], [])
set_option maxRecDepth 1000000 in
theorem ac_77 : af_meth 17 ag_77 ak_77.2.2.1 = true := by decide +kernel
def ag_78 : af_G := ((2, 3, (some .boolean), mc_16), aw_Sh, [ak_77], 2, ak_78.2.2.2.1, ak_78.2.2.2.2, [], [], [])
set_option maxRecDepth 1000000 in
theorem ac_78 : af_meth 21 ag_78 ak_78.2.2.1 = true := by decide +kernel
def ag_79 : af_G := ((10, 2, (some .int), mc_159), aw_Sh, [], 1, ak_79.2.2.2.1, ak_79.2.2.2.2, [], [], [])
set_option maxRecDepth 1000000 in
theorem ac_79 : af_meth 17 ag_79 ak_79.2.2.1 = true := by decide +kernel
def ag_80 : af_G := ((10, 3, none, mc_160), aw_Sh, [], 2, ak_80.2.2.2.1, ak_80.2.2.2.2, [], [], [])
set_option maxRecDepth 1000000 in
theorem ac_80 : af_meth 17 ag_80 ak_80.2.2.1 = true := by decide +kernel
def ag_81 : af_G := ((2, 3, none, mc_15), aw_Sh, [ak_79, ak_80], 2, ak_81.2.2.2.1, ak_81.2.2.2.2, [], [], [])
set_option maxRecDepth 1000000 in
theorem ac_81 : af_meth 17 ag_81 ak_81.2.2.1 = true := by decide +kernel
def ag_82 : af_G := ((10, 2, (some .int), mc_159), aw_Sh, [], 1, ak_82.2.2.2.1, ak_82.2.2.2.2, [], [], [])
set_option maxRecDepth 1000000 in
theorem ac_82 : af_meth 17 ag_82 ak_82.2.2.1 = true := by decide +kernel
def ag_83 : af_G := ((10, 3, none, mc_160), aw_Sh, [], 1, ak_83.2.2.2.1, ak_83.2.2.2.2, [], [], [])
set_option maxRecDepth 1000000 in
theorem ac_83 : af_meth 17 ag_83 ak_83.2.2.1 = true := by decide +kernel
def ag_84 : af_G := ((3, 3, (some .boolean), mc_25), aw_Sh, [ak_81, ak_78, ak_9, ak_11, ak_21, ak_22, ak_82, ak_83], 1, ak_84.2.2.2.1, ak_84.2.2.2.2, [], [], [])
set_option maxRecDepth 1000000 in
theorem ac_84 : af_meth 70 ag_84 ak_84.2.2.1 = true := by decide +kernel
def ag_85 : af_G := ((10, 2, (some .int), mc_159), aw_Sh, [], 1, ak_85.2.2.2.1, ak_85.2.2.2.2, [], [], [])
set_option maxRecDepth 1000000 in
theorem ac_85 : af_meth 17 ag_85 ak_85.2.2.1 = true := by decide +kernel
def ag_86 : af_G := ((3, 3, (some .boolean), mc_23), aw_Sh, [ak_9, ak_11, ak_85], 1, ak_86.2.2.2.1, ak_86.2.2.2.2, [], [], [])
set_option maxRecDepth 1000000 in
theorem ac_86 : af_meth 18 ag_86 ak_86.2.2.1 = true := by decide +kernel
def ag_87 : af_G := ((10, 2, (some .int), mc_159), aw_Sh, [], 1, ak_87.2.2.2.1, ak_87.2.2.2.2, [], [], [])
set_option maxRecDepth 1000000 in
theorem ac_87 : af_meth 17 ag_87 ak_87.2.2.1 = true := by decide +kernel
def ag_88 : af_G := ((10, 3, none, mc_160), aw_Sh, [], 2, ak_88.2.2.2.1, ak_88.2.2.2.2, [], [], [])
set_option maxRecDepth 1000000 in
theorem ac_88 : af_meth 17 ag_88 ak_88.2.2.1 = true := by decide +kernel
def ag_89 : af_G := ((10, 3, none, mc_160), aw_Sh, [], 1, ak_89.2.2.2.1, ak_89.2.2.2.2, [], [], [])
set_option maxRecDepth 1000000 in
theorem ac_89 : af_meth 17 ag_89 ak_89.2.2.1 = true := by decide +kernel
def ag_90 : af_G := ((2, 6, (some .int), mc_14), aw_Sh, [ak_87, ak_13, ak_89, ak_42, ak_88, ak_40], 2, ak_90.2.2.2.1, ak_90.2.2.2.2, [], [], [])
set_option maxRecDepth 1000000 in
theorem ac_90 : af_meth 58 ag_90 ak_90.2.2.1 = true := by decide +kernel
def ag_91 : af_G := ((3, 3, (some .int), mc_24), aw_Sh, [ak_38, ak_90, ak_9, ak_11, ak_12], 1, ak_91.2.2.2.1, ak_91.2.2.2.2, [], [], [])
set_option maxRecDepth 1000000 in
theorem ac_91 : af_meth 30 ag_91 ak_91.2.2.1 = true := by decide +kernel
def ag_92 : af_G := ((3, 1, (some .boolean), mc_22), aw_Sh, [ak_69, ak_37, ak_52, ak_86, ak_76, ak_74, ak_91, ak_84, ak_59, ak_67, ak_62, ak_50, ak_35, ak_29, ak_26, ak_9, ak_11], 0, ak_92.2.2.2.1, ak_92.2.2.2.2, [], [], [])
set_option maxRecDepth 1000000 in
theorem ac_92 : af_meth 24 ag_92 ak_92.2.2.1 = true := by decide +kernel
def ag_93 : af_G := ((9, 2, (some .boolean), mc_105), aw_Sh, [ak_9, ak_11, ak_34], 1, ak_93.2.2.2.1, ak_93.2.2.2.2, [], [], [])
set_option maxRecDepth 1000000 in
theorem ac_93 : af_meth 14 ag_93 ak_93.2.2.1 = true := by decide +kernel
def ag_94 : af_G := ((3, 2, (some .int), mc_21), aw_Sh, [ak_3, ak_92, ak_10, ak_93], 0, ak_94.2.2.2.1, ak_94.2.2.2.2, [(19, (2, [(0, .inr (.inl 10)), (1, .inl (0, [0]))], [], [((1, 3), (900, [])), ((1, 5), (0, [1]))], ([(0, 0, 941), (1, 0, 4)], [], [])), [(1, 0, (0, [])), (2147483647, 1, (0, [0])), (0, 0, (0, []))])], [], [])
set_option maxRecDepth 1000000 in
theorem ac_94 : af_meth 23 ag_94 ak_94.2.2.1 = true := by decide +kernel
def ag_95 : af_G := ((10, 2, none, mc_161), aw_Sh, [], 0, ak_95.2.2.2.1, ak_95.2.2.2.2, [], [], [])
set_option maxRecDepth 1000000 in
theorem ac_95 : af_meth 17 ag_95 ak_95.2.2.1 = true := by decide +kernel
def ag_96 : af_G := ((2, 2, none, mc_11), aw_Sh, [ak_95], 0, ak_96.2.2.2.1, ak_96.2.2.2.2, [], [], [])
set_option maxRecDepth 1000000 in
theorem ac_96 : af_meth 26 ag_96 ak_96.2.2.1 = true := by decide +kernel
def ag_97 : af_G := ((10, 2, (some .int), mc_159), aw_Sh, [], 1, ak_97.2.2.2.1, ak_97.2.2.2.2, [], [], [])
set_option maxRecDepth 1000000 in
theorem ac_97 : af_meth 17 ag_97 ak_97.2.2.1 = true := by decide +kernel
def ag_98 : af_G := ((10, 2, (some .int), mc_159), aw_Sh, [], 0, ak_98.2.2.2.1, ak_98.2.2.2.2, [], [], [])
set_option maxRecDepth 1000000 in
theorem ac_98 : af_meth 17 ag_98 ak_98.2.2.1 = true := by decide +kernel
def ag_99 : af_G := ((10, 3, none, mc_160), aw_Sh, [], 2, ak_99.2.2.2.1, ak_99.2.2.2.2, [], [], [])
set_option maxRecDepth 1000000 in
theorem ac_99 : af_meth 17 ag_99 ak_99.2.2.1 = true := by decide +kernel
def ag_100 : af_G := ((10, 2, (some .int), mc_159), aw_Sh, [], 1, ak_100.2.2.2.1, ak_100.2.2.2.2, [], [], [])
set_option maxRecDepth 1000000 in
theorem ac_100 : af_meth 17 ag_100 ak_100.2.2.1 = true := by decide +kernel
def ag_101 : af_G := ((10, 2, (some .int), mc_159), aw_Sh, [], 1, ak_101.2.2.2.1, ak_101.2.2.2.2, [], [], [])
set_option maxRecDepth 1000000 in
theorem ac_101 : af_meth 17 ag_101 ak_101.2.2.1 = true := by decide +kernel
def ag_102 : af_G := ((10, 2, (some .int), mc_159), aw_Sh, [], 0, ak_102.2.2.2.1, ak_102.2.2.2.2, [], [], [])
set_option maxRecDepth 1000000 in
theorem ac_102 : af_meth 17 ag_102 ak_102.2.2.1 = true := by decide +kernel
def ag_103 : af_G := ((10, 2, (some .int), mc_159), aw_Sh, [], 1, ak_103.2.2.2.1, ak_103.2.2.2.2, [], [], [])
set_option maxRecDepth 1000000 in
theorem ac_103 : af_meth 17 ag_103 ak_103.2.2.1 = true := by decide +kernel
def ag_104 : af_G := ((10, 2, (some .int), mc_159), aw_Sh, [], 1, ak_104.2.2.2.1, ak_104.2.2.2.2, [], [], [])
set_option maxRecDepth 1000000 in
theorem ac_104 : af_meth 17 ag_104 ak_104.2.2.1 = true := by decide +kernel
def ag_105 : af_G := ((10, 2, (some .int), mc_159), aw_Sh, [], 1, ak_105.2.2.2.1, ak_105.2.2.2.2, [], [], [])
set_option maxRecDepth 1000000 in
theorem ac_105 : af_meth 17 ag_105 ak_105.2.2.1 = true := by decide +kernel
def ag_106 : af_G := ((10, 2, (some .int), mc_159), aw_Sh, [], 1, ak_106.2.2.2.1, ak_106.2.2.2.2, [], [], [])
set_option maxRecDepth 1000000 in
theorem ac_106 : af_meth 17 ag_106 ak_106.2.2.1 = true := by decide +kernel
def ag_107 : af_G := ((10, 2, (some .int), mc_159), aw_Sh, [], 1, ak_107.2.2.2.1, ak_107.2.2.2.2, [], [], [])
set_option maxRecDepth 1000000 in
theorem ac_107 : af_meth 17 ag_107 ak_107.2.2.1 = true := by decide +kernel
def ag_108 : af_G := ((10, 2, (some .int), mc_159), aw_Sh, [], 1, ak_108.2.2.2.1, ak_108.2.2.2.2, [], [], [])
set_option maxRecDepth 1000000 in
theorem ac_108 : af_meth 17 ag_108 ak_108.2.2.1 = true := by decide +kernel
def ag_109 : af_G := ((10, 2, (some .int), mc_159), aw_Sh, [], 1, ak_109.2.2.2.1, ak_109.2.2.2.2, [], [], [])
set_option maxRecDepth 1000000 in
theorem ac_109 : af_meth 17 ag_109 ak_109.2.2.1 = true := by decide +kernel
def ag_110 : af_G := ((4, 7, none, mc_42), aw_Sh, [ak_108, ak_109, ak_99], 2, ak_110.2.2.2.1, ak_110.2.2.2.2, [], [], [])
set_option maxRecDepth 1000000 in
theorem ac_110 : af_meth 93 ag_110 ak_110.2.2.1 = true := by decide +kernel
def ag_111 : af_G := ((4, 4, none, mc_41), aw_Sh, [ak_110, ak_108], 1, ak_111.2.2.2.1, ak_111.2.2.2.2, [(39, (3, [(0, .inr (.inl 11)), (1, .inl (0, [0])), (2, .inl (0, [1])), (3, .inl (0, [2]))], [], [], ([(1, (-2147483648), 2147483647), (2, 0, 6), (0, (-2147483648), 2147483647)], [], [])), [(1, 0, (0, [])), (2147483647, 1, (0, [2])), (0, 0, (0, []))])], [], [])
set_option maxRecDepth 1000000 in
theorem ac_111 : af_meth 28 ag_111 ak_111.2.2.1 = true := by decide +kernel
def ag_112 : af_G := ((4, 2, none, mc_37), aw_Sh, [ak_111, ak_98, ak_102, ak_105, ak_100, ak_104, ak_107, ak_106, ak_101, ak_103, ak_97, ak_99], 0, ak_112.2.2.2.1, ak_112.2.2.2.2, [(2, (1, [(0, .inr (.inl 11)), (1, .inl (0, [0]))], [], [], ([(0, 0, 114)], [], [])), [(4, 0, (0, [])), (2147483647, 1, (0, [0])), (0, 0, (0, []))]),
  (26, (1, [(0, .inr (.inl 11)), (1, .inl (0, [0]))], [], [], ([(0, 0, 10)], [], [])), [(3, 0, (0, [])), (2147483647, 1, (0, [0])), (0, 0, (0, []))]),
  (68, (1, [(0, .inr (.inl 11)), (1, .inl (0, [0]))], [], [], ([(0, 0, 6)], [], [])), [(2, 0, (0, [])), (2147483647, 1, (0, [0])), (0, 0, (0, []))]),
  (109, (1, [(0, .inr (.inl 11)), (1, .inl (0, [0]))], [], [], ([(0, 0, 6)], [], [])), [(1, 0, (0, [])), (2147483647, 1, (0, [0])), (0, 0, (0, []))])], [], [])
set_option maxRecDepth 1000000 in
theorem ac_112 : af_meth 26 ag_112 ak_112.2.2.1 = true := by decide +kernel
def ag_113 : af_G := ((7, 1, none, mc_80), aw_Sh, [], 0, ak_113.2.2.2.1, ak_113.2.2.2.2, [], [], [])
set_option maxRecDepth 1000000 in
theorem ac_113 : af_meth 10 ag_113 ak_113.2.2.1 = true := by decide +kernel
def ag_114 : af_G := ((5, 1, none, mc_71), aw_Sh, [], 0, ak_114.2.2.2.1, ak_114.2.2.2.2, [], [], [])
set_option maxRecDepth 1000000 in
theorem ac_114 : af_meth 10 ag_114 ak_114.2.2.1 = true := by decide +kernel
def ag_115 : af_G := ((10, 2, (some .int), mc_113), aw_Sh, [ak_96, ak_94, ak_112, ak_114, ak_113], 0, ak_115.2.2.2.1, ak_115.2.2.2.2, [], [], [])
set_option maxRecDepth 1000000 in
theorem ac_115 : af_meth 33 ag_115 ak_115.2.2.1 = true := by decide +kernel
def ag_116 : af_G := ((10, 1, (some .int), mc_114), aw_Sh, [], 0, ak_116.2.2.2.1, ak_116.2.2.2.2, [], [], [])
set_option maxRecDepth 1000000 in
theorem ac_116 : af_meth 10 ag_116 ak_116.2.2.1 = true := by decide +kernel
def ag_117 : af_G := ((10, 3, (some .boolean), mc_152), aw_Sh, [ak_109], 2, ak_117.2.2.2.1, ak_117.2.2.2.2, [], [], [])
set_option maxRecDepth 1000000 in
theorem ac_117 : af_meth 18 ag_117 ak_117.2.2.1 = true := by decide +kernel
def ag_118 : af_G := ((4, 4, (some .int), mc_69), aw_Sh, [ak_97, ak_108], 1, ak_118.2.2.2.1, ak_118.2.2.2.2, [(4, (3, [(0, .inr (.inl 11)), (1, .inl (0, [0])), (2, .inl (0, [1])), (3, .inl (0, [2]))], [], [], ([(1, (-2147483648), 2147483647), (2, 0, 10), (0, (-2147483648), 2147483647)], [], [])), [(1, 0, (0, [])), (2147483647, 1, (0, [2])), (0, 0, (0, []))])], [], [])
set_option maxRecDepth 1000000 in
theorem ac_118 : af_meth 29 ag_118 ak_118.2.2.1 = true := by decide +kernel
def ag_119 : af_G := ((4, 2, (some .int), mc_68), aw_Sh, [ak_118], 1, ak_119.2.2.2.1, ak_119.2.2.2.2, [], [], [])
set_option maxRecDepth 1000000 in
theorem ac_119 : af_meth 12 ag_119 ak_119.2.2.1 = true := by decide +kernel
