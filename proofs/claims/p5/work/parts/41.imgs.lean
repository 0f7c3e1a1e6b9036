/-! ===== images and land of the model, by hand ===== -/
def ak_793 : af_K := (167, 1, (1, [.inl (0, [0]), .inl (0, []), .inl (1, [])], [], ([(0, 0, 1)], [], [])), [], [(1, [.inl (1, [])], [], ([], [], []))])
def ag_793 : af_G := ((11, 3, (some .boolean), mc_167), aw_Sh, [], 1, ak_793.2.2.2.1, ak_793.2.2.2.2, [], [], [])
set_option maxRecDepth 1000000 in
theorem ac_793 : af_meth 15 ag_793 ak_793.2.2.1 = true := by decide +kernel
theorem aw_793 : af_wfK ak_793.2.1 ak_793.2.2.1 ak_793.2.2.2.2 ag_793.2.2.2.2.2.2.1 = true := by decide +kernel
theorem ah_793 : af_Holds aw_Sh 1 ak_793 := af_soundG (G := ag_793) (K := ak_793) (d := 0) pz_167 rfl rfl rfl rfl aw_793 ac_793 af_HN
def ak_794 : af_K := (185, 3, (3, [.inr (.inl 61), .inl (0, [0])], [((61, 4), (0, [1])), ((61, 11), (0, [2]))], ([(0, 48, 53), (1, 0, 940), (2, 0, 4)], [], [])), [(61, 4, 5), (61, 11, 18), (66, 48, 54)], [(4, [.inl (0, [])], [((61, 4), (0, [1])), ((61, 11), (0, [2])), ((61, 15), (1, [])), ((61, 16), (0, [3]))], ([(3, 0, 940)], [], [])), (5, [.inl (0, [])], [((61, 4), (0, [1])), ((61, 11), (0, [2])), ((61, 15), (0, [3])), ((61, 16), (0, [4]))], ([(3, 1, 3), (4, 0, 940), (2, 1, 1)], [], [])), (5, [.inl (1, [])], [((61, 4), (0, [3])), ((61, 11), (4, [])), ((61, 12), (0, [4]))], ([(3, 0, 940), (4, 0, 939), (2, 1, 1)], [(3, 1, 0)], [])), (7, [.inl (1, [])], [((61, 4), (0, [3])), ((61, 11), (0, [4])), ((61, 12), (0, [5])), ((61, 13), (0, [6]))], ([(3, 1, 940), (4, 1, 3), (5, 0, 939), (6, (-2147483648), 7), (1, 0, 939), (2, 1, 1)], [(3, 1, 1)], [])), (4, [.inl (1, [])], [((61, 4), (0, [3])), ((61, 11), (0, [])), ((61, 13), (0, []))], ([(3, 0, 940), (2, 1, 1)], [(3, 1, 0)], []))])
def ag_794 : af_G := ((11, 2, (some .boolean), mc_185), aw_Sh, [ak_490, ak_493, ak_492, ak_495, ak_496, ak_497, ak_494], 3, ak_794.2.2.2.1, ak_794.2.2.2.2, [], [], [])
set_option maxRecDepth 1000000 in
theorem ac_794 : af_meth 51 ag_794 ak_794.2.2.1 = true := by decide +kernel
theorem aw_794 : af_wfK ak_794.2.1 ak_794.2.2.1 ak_794.2.2.2.2 ag_794.2.2.2.2.2.2.1 = true := by decide +kernel
theorem ah_794 : af_Holds aw_Sh 8 ak_794 := af_soundG (G := ag_794) (K := ak_794) (d := 7) pz_185 rfl rfl rfl rfl aw_794 ac_794 (af_HC ah_490 (by decide) (af_HC ah_493 (by decide) (af_HC ah_492 (by decide) (af_HC ah_495 (by decide) (af_HC ah_496 (by decide) (af_HC ah_497 (by decide) (af_HC ah_494 (by decide) af_HN)))))))
def ak_795 : af_K := (183, 3, (3, [.inr (.inl 61), .inl (0, [0]), .inl (0, []), .inl (9, [])], [((61, 4), (0, [1])), ((61, 11), (0, [2]))], ([(0, 39, 44), (1, 0, 940), (2, 0, 4)], [], [])), [(61, 4, 5), (61, 11, 19), (64, 39, 45)], [(4, [.inl (0, [])], [((61, 4), (0, [1])), ((61, 11), (0, [2])), ((61, 15), (1, [])), ((61, 16), (0, [3]))], ([(3, 0, 940)], [], [])), (4, [.inl (0, [])], [((61, 4), (0, [1])), ((61, 11), (0, [2])), ((61, 15), (2, [])), ((61, 16), (0, [3]))], ([(3, 0, 940), (2, 2, 2)], [], [])), (6, [.inl (1, [])], [((61, 4), (0, [3])), ((61, 11), (4, [])), ((61, 12), (0, [4])), ((61, 18), (0, [5]))], ([(3, 0, 940), (4, 0, 939), (5, 0, 9), (2, 2, 2)], [(3, 1, 0)], [])), (8, [.inl (1, [])], [((61, 4), (0, [3])), ((61, 11), (0, [4])), ((61, 12), (0, [5])), ((61, 13), (0, [6])), ((61, 18), (0, [7]))], ([(3, 1, 940), (4, 1, 3), (5, 0, 939), (6, (-2147483648), 7), (7, 0, 9), (1, 0, 939), (2, 2, 2)], [(3, 1, 1)], [])), (5, [.inl (1, [])], [((61, 4), (0, [3])), ((61, 11), (0, [])), ((61, 13), (0, [])), ((61, 18), (0, [4]))], ([(3, 0, 940), (4, 0, 9), (2, 2, 2)], [(3, 1, 0)], []))])
def ag_795 : af_G := ((11, 4, (some .boolean), mc_183), aw_Sh, [ak_530], 3, ak_795.2.2.2.1, ak_795.2.2.2.2, [], [], [])
set_option maxRecDepth 1000000 in
theorem ac_795 : af_meth 19 ag_795 ak_795.2.2.1 = true := by decide +kernel
theorem aw_795 : af_wfK ak_795.2.1 ak_795.2.2.1 ak_795.2.2.2.2 ag_795.2.2.2.2.2.2.1 = true := by decide +kernel
theorem ah_795 : af_Holds aw_Sh 9 ak_795 := af_soundG (G := ag_795) (K := ak_795) (d := 8) pz_183 rfl rfl rfl rfl aw_795 ac_795 (af_HC ah_530 (by decide) af_HN)
def ak_796 : af_K := (188, 4, (4, [.inr (.inl 61)], [((61, 4), (0, [0])), ((61, 11), (0, [1])), ((64, 0), (0, [2])), ((64, 4), (0, [3]))], ([(0, 0, 940), (1, 0, 4), (2, 0, 10), (3, 0, 6)], [], [])), [(61, 4, 5), (61, 11, 19), (64, 0, 115), (66, 27, 54)], [(5, [.inl (0, [])], [((61, 4), (0, [0])), ((61, 11), (0, [1])), ((61, 15), (1, [])), ((61, 16), (0, [4])), ((64, 0), (0, [2])), ((64, 4), (0, [3]))], ([(4, 0, 940)], [], [])), (6, [.inl (0, [])], [((61, 4), (0, [4])), ((61, 11), (4, [])), ((61, 15), (1, [])), ((61, 16), (0, [5])), ((64, 0), (0, [2])), ((64, 4), (0, [3]))], ([(4, 0, 940), (5, 0, 940), (0, 0, 939), (1, 1, 1), (2, 1, 10), (3, 0, 5)], [(4, 0, 2)], [])), (6, [.inl (0, [])], [((61, 4), (0, [4])), ((61, 11), (4, [])), ((61, 15), (1, [])), ((61, 16), (0, [5])), ((64, 0), (0, [2])), ((64, 4), (0, [3]))], ([(4, 0, 940), (5, 0, 940), (1, 1, 1)], [(4, 0, 0)], [])), (8, [.inl (0, [])], [((61, 4), (0, [4])), ((61, 11), (0, [5])), ((61, 15), (0, [6])), ((61, 16), (0, [7])), ((64, 0), (0, [2])), ((64, 4), (0, [3]))], ([(4, 0, 940), (5, 1, 3), (6, 1, 4), (7, 0, 940), (1, 1, 1), (2, 1, 10)], [(4, 0, 0)], [])), (8, [.inl (0, [])], [((61, 4), (0, [4])), ((61, 11), (0, [5])), ((61, 15), (0, [6])), ((61, 16), (0, [7])), ((64, 0), (0, [2])), ((64, 4), (0, [3]))], ([(4, 0, 940), (5, 1, 3), (6, 1, 4), (7, 0, 940), (1, 1, 1)], [(4, 0, 0)], [])), (6, [.inl (0, [])], [((61, 4), (0, [4])), ((61, 11), (0, [])), ((61, 15), (1, [])), ((61, 16), (0, [5])), ((64, 0), (0, [2])), ((64, 4), (0, [3]))], ([(4, 0, 940), (5, 0, 940), (0, 0, 939), (1, 1, 1), (2, 1, 10), (3, 0, 5)], [(4, 0, 2)], [])), (6, [.inl (0, [])], [((61, 4), (0, [4])), ((61, 11), (0, [])), ((61, 15), (1, [])), ((61, 16), (0, [5])), ((64, 0), (0, [2])), ((64, 4), (0, [3]))], ([(4, 0, 940), (5, 0, 940), (1, 1, 1)], [(4, 0, 0)], [])), (7, [.inl (1, [])], [((61, 4), (0, [4])), ((61, 11), (4, [])), ((61, 12), (0, [5])), ((64, 0), (0, [6]))], ([(4, 0, 940), (5, 0, 939), (6, 1, 10), (0, 0, 939), (1, 1, 1)], [(4, 0, 1)], [])), (6, [.inl (1, [])], [((61, 4), (0, [4])), ((61, 11), (4, [])), ((61, 12), (0, [5])), ((64, 0), (0, [2])), ((64, 4), (0, [3]))], ([(4, 0, 940), (5, 0, 939), (0, 0, 939), (1, 1, 1)], [(4, 0, 1)], [])), (9, [.inl (1, [])], [((61, 4), (0, [4])), ((61, 11), (0, [5])), ((61, 12), (0, [6])), ((61, 13), (0, [7])), ((64, 0), (0, [8]))], ([(4, 1, 940), (5, 1, 3), (6, 0, 939), (7, (-2147483648), 7), (8, 1, 10), (0, 0, 939), (1, 1, 1)], [(4, 0, 2)], [])), (8, [.inl (1, [])], [((61, 4), (0, [4])), ((61, 11), (0, [5])), ((61, 12), (0, [6])), ((61, 13), (0, [7])), ((64, 0), (0, [2])), ((64, 4), (0, [3]))], ([(4, 1, 940), (5, 1, 3), (6, 0, 939), (7, (-2147483648), 7), (0, 0, 939), (1, 1, 1)], [(4, 0, 2)], [])), (6, [.inl (1, [])], [((61, 4), (0, [4])), ((61, 11), (0, [])), ((61, 13), (0, [])), ((64, 0), (0, [5]))], ([(4, 0, 940), (5, 1, 10), (0, 0, 939), (1, 1, 1)], [(4, 0, 1)], [])), (5, [.inl (1, [])], [((61, 4), (0, [4])), ((61, 11), (0, [])), ((61, 13), (0, [])), ((64, 0), (0, [2])), ((64, 4), (0, [3]))], ([(4, 0, 940), (0, 0, 939), (1, 1, 1)], [(4, 0, 1)], []))])
def ag_796 : af_G := ((11, 2, (some .boolean), mc_188), aw_Sh, [ak_377, ak_490, ak_493, ak_491, ak_795, ak_504, ak_794, ak_533, ak_554, ak_517, ak_499, ak_522, ak_500, ak_503, ak_512, ak_518], 4, ak_796.2.2.2.1, ak_796.2.2.2.2, [], [], [])
set_option maxRecDepth 1000000 in
theorem ac_796 : af_meth 90 ag_796 ak_796.2.2.1 = true := by decide +kernel
theorem aw_796 : af_wfK ak_796.2.1 ak_796.2.2.1 ak_796.2.2.2.2 ag_796.2.2.2.2.2.2.1 = true := by decide +kernel
theorem ah_796 : af_Holds aw_Sh 11 ak_796 := af_soundG (G := ag_796) (K := ak_796) (d := 10) pz_188 rfl rfl rfl rfl aw_796 ac_796 (af_HC ah_377 (by decide) (af_HC ah_490 (by decide) (af_HC ah_493 (by decide) (af_HC ah_491 (by decide) (af_HC ah_795 (by decide) (af_HC ah_504 (by decide) (af_HC ah_794 (by decide) (af_HC ah_533 (by decide) (af_HC ah_554 (by decide) (af_HC ah_517 (by decide) (af_HC ah_499 (by decide) (af_HC ah_522 (by decide) (af_HC ah_500 (by decide) (af_HC ah_503 (by decide) (af_HC ah_512 (by decide) (af_HC ah_518 (by decide) af_HN))))))))))))))))
theorem hf282_0 : pi_fetch mc_282 0 = some (.aload_n 0, 1) := rfl
theorem hf282_1 : pi_fetch mc_282 1 = some (.iconst 0, 1) := rfl
theorem hf282_2 : pi_fetch mc_282 2 = some (.putfield 1, 3) := rfl
theorem hf282_5 : pi_fetch mc_282 5 = some (.iload_n 1, 1) := rfl
theorem hf282_6 : pi_fetch mc_282 6 = some (.iconst 0, 1) := rfl
theorem hf282_7 : pi_fetch mc_282 7 = some (.iconst 1, 1) := rfl
theorem hf282_8 : pi_fetch mc_282 8 = some (.invokestatic 184, 3) := rfl
theorem hf282_11 : pi_fetch mc_282 11 = some (.ifCond .ne 5, 3) := rfl
theorem hf282_14 : pi_fetch mc_282 14 = some (.iconst 0, 1) := rfl
theorem hf282_15 : pi_fetch mc_282 15 = some (.ireturn, 1) := rfl
theorem hf282_16 : pi_fetch mc_282 16 = some (.iconst 0, 1) := rfl
theorem hf282_17 : pi_fetch mc_282 17 = some (.istore_n 2, 1) := rfl
theorem hf282_18 : pi_fetch mc_282 18 = some (.iload_n 2, 1) := rfl
theorem hf282_19 : pi_fetch mc_282 19 = some (.sipush 411, 3) := rfl
theorem hf282_22 : pi_fetch mc_282 22 = some (.if_icmp .ge 27, 3) := rfl
theorem hf282_25 : pi_fetch mc_282 25 = some (.aload_n 0, 1) := rfl
theorem hf282_26 : pi_fetch mc_282 26 = some (.getfield 75, 3) := rfl
theorem hf282_29 : pi_fetch mc_282 29 = some (.sipush 411, 3) := rfl
theorem hf282_32 : pi_fetch mc_282 32 = some (.iload_n 1, 1) := rfl
theorem hf282_33 : pi_fetch mc_282 33 = some (.imul, 1) := rfl
theorem hf282_34 : pi_fetch mc_282 34 = some (.iload_n 2, 1) := rfl
theorem hf282_35 : pi_fetch mc_282 35 = some (.iadd, 1) := rfl
theorem hf282_36 : pi_fetch mc_282 36 = some (.aload_n 0, 1) := rfl
theorem hf282_37 : pi_fetch mc_282 37 = some (.getfield 33, 3) := rfl
theorem hf282_40 : pi_fetch mc_282 40 = some (.iload_n 2, 1) := rfl
theorem hf282_41 : pi_fetch mc_282 41 = some (.iaload, 1) := rfl
theorem hf282_42 : pi_fetch mc_282 42 = some (.iastore, 1) := rfl
theorem hf282_43 : pi_fetch mc_282 43 = some (.iinc 2 1, 3) := rfl
theorem hf282_46 : pi_fetch mc_282 46 = some (.goto (-28), 3) := rfl
theorem hf282_49 : pi_fetch mc_282 49 = some (.iconst 0, 1) := rfl
theorem hf282_50 : pi_fetch mc_282 50 = some (.istore_n 2, 1) := rfl
theorem hf282_51 : pi_fetch mc_282 51 = some (.iload_n 2, 1) := rfl
theorem hf282_52 : pi_fetch mc_282 52 = some (.bipush 27, 2) := rfl
theorem hf282_54 : pi_fetch mc_282 54 = some (.if_icmp .ge 26, 3) := rfl
theorem hf282_57 : pi_fetch mc_282 57 = some (.aload_n 0, 1) := rfl
theorem hf282_58 : pi_fetch mc_282 58 = some (.getfield 78, 3) := rfl
theorem hf282_61 : pi_fetch mc_282 61 = some (.bipush 27, 2) := rfl
theorem hf282_63 : pi_fetch mc_282 63 = some (.iload_n 1, 1) := rfl
theorem hf282_64 : pi_fetch mc_282 64 = some (.imul, 1) := rfl
theorem hf282_65 : pi_fetch mc_282 65 = some (.iload_n 2, 1) := rfl
theorem hf282_66 : pi_fetch mc_282 66 = some (.iadd, 1) := rfl
theorem hf282_67 : pi_fetch mc_282 67 = some (.aload_n 0, 1) := rfl
theorem hf282_68 : pi_fetch mc_282 68 = some (.getfield 43, 3) := rfl
theorem hf282_71 : pi_fetch mc_282 71 = some (.iload_n 2, 1) := rfl
theorem hf282_72 : pi_fetch mc_282 72 = some (.laload, 1) := rfl
theorem hf282_73 : pi_fetch mc_282 73 = some (.lastore, 1) := rfl
theorem hf282_74 : pi_fetch mc_282 74 = some (.iinc 2 1, 3) := rfl
theorem hf282_77 : pi_fetch mc_282 77 = some (.goto (-26), 3) := rfl
theorem hf282_80 : pi_fetch mc_282 80 = some (.aload_n 0, 1) := rfl
theorem hf282_81 : pi_fetch mc_282 81 = some (.getfield 81, 3) := rfl
theorem hf282_84 : pi_fetch mc_282 84 = some (.iload_n 1, 1) := rfl
theorem hf282_85 : pi_fetch mc_282 85 = some (.iconst 1, 1) := rfl
theorem hf282_86 : pi_fetch mc_282 86 = some (.bastore, 1) := rfl
theorem hf282_87 : pi_fetch mc_282 87 = some (.iconst 1, 1) := rfl
theorem hf282_88 : pi_fetch mc_282 88 = some (.ireturn, 1) := rfl
def hm282 : pi_M := (11, 3, (some .boolean), false, mc_282)
theorem hf283_0 : pi_fetch mc_283 0 = some (.aload_n 0, 1) := rfl
theorem hf283_1 : pi_fetch mc_283 1 = some (.iconst 0, 1) := rfl
theorem hf283_2 : pi_fetch mc_283 2 = some (.putfield 1, 3) := rfl
theorem hf283_5 : pi_fetch mc_283 5 = some (.iload_n 1, 1) := rfl
theorem hf283_6 : pi_fetch mc_283 6 = some (.iconst 0, 1) := rfl
theorem hf283_7 : pi_fetch mc_283 7 = some (.iconst 1, 1) := rfl
theorem hf283_8 : pi_fetch mc_283 8 = some (.invokestatic 184, 3) := rfl
theorem hf283_11 : pi_fetch mc_283 11 = some (.ifCond .eq 12, 3) := rfl
theorem hf283_14 : pi_fetch mc_283 14 = some (.aload_n 0, 1) := rfl
theorem hf283_15 : pi_fetch mc_283 15 = some (.getfield 81, 3) := rfl
theorem hf283_18 : pi_fetch mc_283 18 = some (.iload_n 1, 1) := rfl
theorem hf283_19 : pi_fetch mc_283 19 = some (.baload, 1) := rfl
theorem hf283_20 : pi_fetch mc_283 20 = some (.ifCond .ne 5, 3) := rfl
theorem hf283_23 : pi_fetch mc_283 23 = some (.iconst 0, 1) := rfl
theorem hf283_24 : pi_fetch mc_283 24 = some (.ireturn, 1) := rfl
theorem hf283_25 : pi_fetch mc_283 25 = some (.iconst 0, 1) := rfl
theorem hf283_26 : pi_fetch mc_283 26 = some (.istore_n 2, 1) := rfl
theorem hf283_27 : pi_fetch mc_283 27 = some (.iload_n 2, 1) := rfl
theorem hf283_28 : pi_fetch mc_283 28 = some (.sipush 411, 3) := rfl
theorem hf283_31 : pi_fetch mc_283 31 = some (.if_icmp .ge 27, 3) := rfl
theorem hf283_34 : pi_fetch mc_283 34 = some (.aload_n 0, 1) := rfl
theorem hf283_35 : pi_fetch mc_283 35 = some (.getfield 33, 3) := rfl
theorem hf283_38 : pi_fetch mc_283 38 = some (.iload_n 2, 1) := rfl
theorem hf283_39 : pi_fetch mc_283 39 = some (.aload_n 0, 1) := rfl
theorem hf283_40 : pi_fetch mc_283 40 = some (.getfield 75, 3) := rfl
theorem hf283_43 : pi_fetch mc_283 43 = some (.sipush 411, 3) := rfl
theorem hf283_46 : pi_fetch mc_283 46 = some (.iload_n 1, 1) := rfl
theorem hf283_47 : pi_fetch mc_283 47 = some (.imul, 1) := rfl
theorem hf283_48 : pi_fetch mc_283 48 = some (.iload_n 2, 1) := rfl
theorem hf283_49 : pi_fetch mc_283 49 = some (.iadd, 1) := rfl
theorem hf283_50 : pi_fetch mc_283 50 = some (.iaload, 1) := rfl
theorem hf283_51 : pi_fetch mc_283 51 = some (.iastore, 1) := rfl
theorem hf283_52 : pi_fetch mc_283 52 = some (.iinc 2 1, 3) := rfl
theorem hf283_55 : pi_fetch mc_283 55 = some (.goto (-28), 3) := rfl
theorem hf283_58 : pi_fetch mc_283 58 = some (.iconst 0, 1) := rfl
theorem hf283_59 : pi_fetch mc_283 59 = some (.istore_n 2, 1) := rfl
theorem hf283_60 : pi_fetch mc_283 60 = some (.iload_n 2, 1) := rfl
theorem hf283_61 : pi_fetch mc_283 61 = some (.bipush 27, 2) := rfl
theorem hf283_63 : pi_fetch mc_283 63 = some (.if_icmp .ge 26, 3) := rfl
theorem hf283_66 : pi_fetch mc_283 66 = some (.aload_n 0, 1) := rfl
theorem hf283_67 : pi_fetch mc_283 67 = some (.getfield 43, 3) := rfl
theorem hf283_70 : pi_fetch mc_283 70 = some (.iload_n 2, 1) := rfl
theorem hf283_71 : pi_fetch mc_283 71 = some (.aload_n 0, 1) := rfl
theorem hf283_72 : pi_fetch mc_283 72 = some (.getfield 78, 3) := rfl
theorem hf283_75 : pi_fetch mc_283 75 = some (.bipush 27, 2) := rfl
theorem hf283_77 : pi_fetch mc_283 77 = some (.iload_n 1, 1) := rfl
theorem hf283_78 : pi_fetch mc_283 78 = some (.imul, 1) := rfl
theorem hf283_79 : pi_fetch mc_283 79 = some (.iload_n 2, 1) := rfl
theorem hf283_80 : pi_fetch mc_283 80 = some (.iadd, 1) := rfl
theorem hf283_81 : pi_fetch mc_283 81 = some (.laload, 1) := rfl
theorem hf283_82 : pi_fetch mc_283 82 = some (.lastore, 1) := rfl
theorem hf283_83 : pi_fetch mc_283 83 = some (.iinc 2 1, 3) := rfl
theorem hf283_86 : pi_fetch mc_283 86 = some (.goto (-26), 3) := rfl
theorem hf283_89 : pi_fetch mc_283 89 = some (.aload_n 0, 1) := rfl
theorem hf283_90 : pi_fetch mc_283 90 = some (.iconst 0, 1) := rfl
theorem hf283_91 : pi_fetch mc_283 91 = some (.putfield 247, 3) := rfl
theorem hf283_94 : pi_fetch mc_283 94 = some (.iconst 1, 1) := rfl
theorem hf283_95 : pi_fetch mc_283 95 = some (.ireturn, 1) := rfl
def hm283 : pi_M := (11, 3, (some .boolean), false, mc_283)
theorem hf192_0 : pi_fetch mc_192 0 = some (.aload_n 0, 1) := rfl
theorem hf192_1 : pi_fetch mc_192 1 = some (.iconst 0, 1) := rfl
theorem hf192_2 : pi_fetch mc_192 2 = some (.putfield 1, 3) := rfl
theorem hf192_5 : pi_fetch mc_192 5 = some (.aload_n 0, 1) := rfl
theorem hf192_6 : pi_fetch mc_192 6 = some (.sipush 900, 3) := rfl
theorem hf192_9 : pi_fetch mc_192 9 = some (.invokevirtual 232, 3) := rfl
theorem hf192_12 : pi_fetch mc_192 12 = some (.aload_n 0, 1) := rfl
theorem hf192_13 : pi_fetch mc_192 13 = some (.iconst 0, 1) := rfl
theorem hf192_14 : pi_fetch mc_192 14 = some (.putfield 169, 3) := rfl
theorem hf192_17 : pi_fetch mc_192 17 = some (.aload_n 0, 1) := rfl
theorem hf192_18 : pi_fetch mc_192 18 = some (.iconst 0, 1) := rfl
theorem hf192_19 : pi_fetch mc_192 19 = some (.putfield 235, 3) := rfl
theorem hf192_22 : pi_fetch mc_192 22 = some (.iconst 0, 1) := rfl
theorem hf192_23 : pi_fetch mc_192 23 = some (.istore_n 1, 1) := rfl
theorem hf192_24 : pi_fetch mc_192 24 = some (.iload_n 1, 1) := rfl
theorem hf192_25 : pi_fetch mc_192 25 = some (.bipush 115, 2) := rfl
theorem hf192_27 : pi_fetch mc_192 27 = some (.if_icmp .ge 16, 3) := rfl
theorem hf192_30 : pi_fetch mc_192 30 = some (.aload_n 0, 1) := rfl
theorem hf192_31 : pi_fetch mc_192 31 = some (.getfield 37, 3) := rfl
theorem hf192_34 : pi_fetch mc_192 34 = some (.iload_n 1, 1) := rfl
theorem hf192_35 : pi_fetch mc_192 35 = some (.iconst 0, 1) := rfl
theorem hf192_36 : pi_fetch mc_192 36 = some (.iastore, 1) := rfl
theorem hf192_37 : pi_fetch mc_192 37 = some (.iinc 1 1, 3) := rfl
theorem hf192_40 : pi_fetch mc_192 40 = some (.goto (-16), 3) := rfl
theorem hf192_43 : pi_fetch mc_192 43 = some (.aload_n 0, 1) := rfl
theorem hf192_44 : pi_fetch mc_192 44 = some (.invokevirtual 181, 3) := rfl
theorem hf192_47 : pi_fetch mc_192 47 = some (.aload_n 0, 1) := rfl
theorem hf192_48 : pi_fetch mc_192 48 = some (.getfield 152, 3) := rfl
theorem hf192_51 : pi_fetch mc_192 51 = some (.ifCond .eq 39, 3) := rfl
theorem hf192_54 : pi_fetch mc_192 54 = some (.aload_n 0, 1) := rfl
theorem hf192_55 : pi_fetch mc_192 55 = some (.invokevirtual 238, 3) := rfl
theorem hf192_58 : pi_fetch mc_192 58 = some (.ifCond .eq 12, 3) := rfl
theorem hf192_61 : pi_fetch mc_192 61 = some (.aload_n 0, 1) := rfl
theorem hf192_62 : pi_fetch mc_192 62 = some (.bipush 59, 2) := rfl
theorem hf192_64 : pi_fetch mc_192 64 = some (.invokevirtual 241, 3) := rfl
theorem hf192_67 : pi_fetch mc_192 67 = some (.ifCond .ne 10, 3) := rfl
theorem hf192_70 : pi_fetch mc_192 70 = some (.iconst (-1), 1) := rfl
theorem hf192_71 : pi_fetch mc_192 71 = some (.aload_n 0, 1) := rfl
theorem hf192_72 : pi_fetch mc_192 72 = some (.getfield 172, 3) := rfl
theorem hf192_75 : pi_fetch mc_192 75 = some (.isub, 1) := rfl
theorem hf192_76 : pi_fetch mc_192 76 = some (.ireturn, 1) := rfl
theorem hf192_77 : pi_fetch mc_192 77 = some (.aload_n 0, 1) := rfl
theorem hf192_78 : pi_fetch mc_192 78 = some (.dup, 1) := rfl
theorem hf192_79 : pi_fetch mc_192 79 = some (.getfield 235, 3) := rfl
theorem hf192_82 : pi_fetch mc_192 82 = some (.iconst 1, 1) := rfl
theorem hf192_83 : pi_fetch mc_192 83 = some (.iadd, 1) := rfl
theorem hf192_84 : pi_fetch mc_192 84 = some (.putfield 235, 3) := rfl
theorem hf192_87 : pi_fetch mc_192 87 = some (.goto (-40), 3) := rfl
theorem hf192_90 : pi_fetch mc_192 90 = some (.iconst 0, 1) := rfl
theorem hf192_91 : pi_fetch mc_192 91 = some (.istore_n 1, 1) := rfl
theorem hf192_92 : pi_fetch mc_192 92 = some (.iload_n 1, 1) := rfl
theorem hf192_93 : pi_fetch mc_192 93 = some (.sipush 411, 3) := rfl
theorem hf192_96 : pi_fetch mc_192 96 = some (.if_icmp .ge 31, 3) := rfl
theorem hf192_99 : pi_fetch mc_192 99 = some (.aload_n 0, 1) := rfl
theorem hf192_100 : pi_fetch mc_192 100 = some (.getfield 33, 3) := rfl
theorem hf192_103 : pi_fetch mc_192 103 = some (.iload_n 1, 1) := rfl
theorem hf192_104 : pi_fetch mc_192 104 = some (.iload_n 1, 1) := rfl
theorem hf192_105 : pi_fetch mc_192 105 = some (.bipush 115, 2) := rfl
theorem hf192_107 : pi_fetch mc_192 107 = some (.if_icmp .ge 12, 3) := rfl
theorem hf192_110 : pi_fetch mc_192 110 = some (.aload_n 0, 1) := rfl
theorem hf192_111 : pi_fetch mc_192 111 = some (.getfield 37, 3) := rfl
theorem hf192_114 : pi_fetch mc_192 114 = some (.iload_n 1, 1) := rfl
theorem hf192_115 : pi_fetch mc_192 115 = some (.iaload, 1) := rfl
theorem hf192_116 : pi_fetch mc_192 116 = some (.goto 4, 3) := rfl
theorem hf192_119 : pi_fetch mc_192 119 = some (.iconst 0, 1) := rfl
theorem hf192_120 : pi_fetch mc_192 120 = some (.iastore, 1) := rfl
theorem hf192_121 : pi_fetch mc_192 121 = some (.iinc 1 1, 3) := rfl
theorem hf192_124 : pi_fetch mc_192 124 = some (.goto (-32), 3) := rfl
theorem hf192_127 : pi_fetch mc_192 127 = some (.iconst 0, 1) := rfl
theorem hf192_128 : pi_fetch mc_192 128 = some (.istore_n 1, 1) := rfl
theorem hf192_129 : pi_fetch mc_192 129 = some (.iload_n 1, 1) := rfl
theorem hf192_130 : pi_fetch mc_192 130 = some (.bipush 27, 2) := rfl
theorem hf192_132 : pi_fetch mc_192 132 = some (.if_icmp .ge 24, 3) := rfl
theorem hf192_135 : pi_fetch mc_192 135 = some (.aload_n 0, 1) := rfl
theorem hf192_136 : pi_fetch mc_192 136 = some (.getfield 43, 3) := rfl
theorem hf192_139 : pi_fetch mc_192 139 = some (.iload_n 1, 1) := rfl
theorem hf192_140 : pi_fetch mc_192 140 = some (.aload_n 0, 1) := rfl
theorem hf192_141 : pi_fetch mc_192 141 = some (.getfield 43, 3) := rfl
theorem hf192_144 : pi_fetch mc_192 144 = some (.bipush 27, 2) := rfl
theorem hf192_146 : pi_fetch mc_192 146 = some (.iload_n 1, 1) := rfl
theorem hf192_147 : pi_fetch mc_192 147 = some (.iadd, 1) := rfl
theorem hf192_148 : pi_fetch mc_192 148 = some (.laload, 1) := rfl
theorem hf192_149 : pi_fetch mc_192 149 = some (.lastore, 1) := rfl
theorem hf192_150 : pi_fetch mc_192 150 = some (.iinc 1 1, 3) := rfl
theorem hf192_153 : pi_fetch mc_192 153 = some (.goto (-24), 3) := rfl
theorem hf192_156 : pi_fetch mc_192 156 = some (.iconst 0, 1) := rfl
theorem hf192_157 : pi_fetch mc_192 157 = some (.istore_n 1, 1) := rfl
theorem hf192_158 : pi_fetch mc_192 158 = some (.iload_n 1, 1) := rfl
theorem hf192_159 : pi_fetch mc_192 159 = some (.bipush 10, 2) := rfl
theorem hf192_161 : pi_fetch mc_192 161 = some (.if_icmp .ge 28, 3) := rfl
theorem hf192_164 : pi_fetch mc_192 164 = some (.aload_n 0, 1) := rfl
theorem hf192_165 : pi_fetch mc_192 165 = some (.getfield 33, 3) := rfl
theorem hf192_168 : pi_fetch mc_192 168 = some (.sipush 138, 3) := rfl
theorem hf192_171 : pi_fetch mc_192 171 = some (.iload_n 1, 1) := rfl
theorem hf192_172 : pi_fetch mc_192 172 = some (.iadd, 1) := rfl
theorem hf192_173 : pi_fetch mc_192 173 = some (.aload_n 0, 1) := rfl
theorem hf192_174 : pi_fetch mc_192 174 = some (.getfield 33, 3) := rfl
theorem hf192_177 : pi_fetch mc_192 177 = some (.bipush 105, 2) := rfl
theorem hf192_179 : pi_fetch mc_192 179 = some (.iload_n 1, 1) := rfl
theorem hf192_180 : pi_fetch mc_192 180 = some (.iadd, 1) := rfl
theorem hf192_181 : pi_fetch mc_192 181 = some (.iaload, 1) := rfl
theorem hf192_182 : pi_fetch mc_192 182 = some (.iastore, 1) := rfl
theorem hf192_183 : pi_fetch mc_192 183 = some (.iinc 1 1, 3) := rfl
theorem hf192_186 : pi_fetch mc_192 186 = some (.goto (-28), 3) := rfl
theorem hf192_189 : pi_fetch mc_192 189 = some (.iconst 0, 1) := rfl
theorem hf192_190 : pi_fetch mc_192 190 = some (.istore_n 1, 1) := rfl
theorem hf192_191 : pi_fetch mc_192 191 = some (.iload_n 1, 1) := rfl
theorem hf192_192 : pi_fetch mc_192 192 = some (.aload_n 0, 1) := rfl
theorem hf192_193 : pi_fetch mc_192 193 = some (.getfield 33, 3) := rfl
theorem hf192_196 : pi_fetch mc_192 196 = some (.iconst 4, 1) := rfl
theorem hf192_197 : pi_fetch mc_192 197 = some (.iaload, 1) := rfl
theorem hf192_198 : pi_fetch mc_192 198 = some (.if_icmp .ge 27, 3) := rfl
theorem hf192_201 : pi_fetch mc_192 201 = some (.aload_n 0, 1) := rfl
theorem hf192_202 : pi_fetch mc_192 202 = some (.getfield 33, 3) := rfl
theorem hf192_205 : pi_fetch mc_192 205 = some (.bipush 120, 2) := rfl
theorem hf192_207 : pi_fetch mc_192 207 = some (.iload_n 1, 1) := rfl
theorem hf192_208 : pi_fetch mc_192 208 = some (.iadd, 1) := rfl
theorem hf192_209 : pi_fetch mc_192 209 = some (.aload_n 0, 1) := rfl
theorem hf192_210 : pi_fetch mc_192 210 = some (.getfield 33, 3) := rfl
theorem hf192_213 : pi_fetch mc_192 213 = some (.bipush 33, 2) := rfl
theorem hf192_215 : pi_fetch mc_192 215 = some (.iload_n 1, 1) := rfl
theorem hf192_216 : pi_fetch mc_192 216 = some (.iadd, 1) := rfl
theorem hf192_217 : pi_fetch mc_192 217 = some (.iaload, 1) := rfl
theorem hf192_218 : pi_fetch mc_192 218 = some (.iastore, 1) := rfl
theorem hf192_219 : pi_fetch mc_192 219 = some (.iinc 1 1, 3) := rfl
theorem hf192_222 : pi_fetch mc_192 222 = some (.goto (-31), 3) := rfl
theorem hf192_225 : pi_fetch mc_192 225 = some (.iconst 0, 1) := rfl
theorem hf192_226 : pi_fetch mc_192 226 = some (.istore_n 1, 1) := rfl
theorem hf192_227 : pi_fetch mc_192 227 = some (.iload_n 1, 1) := rfl
theorem hf192_228 : pi_fetch mc_192 228 = some (.aload_n 0, 1) := rfl
theorem hf192_229 : pi_fetch mc_192 229 = some (.getfield 33, 3) := rfl
theorem hf192_232 : pi_fetch mc_192 232 = some (.iconst 4, 1) := rfl
theorem hf192_233 : pi_fetch mc_192 233 = some (.iaload, 1) := rfl
theorem hf192_234 : pi_fetch mc_192 234 = some (.if_icmp .ge 14, 3) := rfl
theorem hf192_237 : pi_fetch mc_192 237 = some (.aload_n 0, 1) := rfl
theorem hf192_238 : pi_fetch mc_192 238 = some (.iload_n 1, 1) := rfl
theorem hf192_239 : pi_fetch mc_192 239 = some (.invokevirtual 244, 3) := rfl
theorem hf192_242 : pi_fetch mc_192 242 = some (.iinc 1 1, 3) := rfl
theorem hf192_245 : pi_fetch mc_192 245 = some (.goto (-18), 3) := rfl
theorem hf192_248 : pi_fetch mc_192 248 = some (.aload_n 0, 1) := rfl
theorem hf192_249 : pi_fetch mc_192 249 = some (.iconst 0, 1) := rfl
theorem hf192_250 : pi_fetch mc_192 250 = some (.putfield 247, 3) := rfl
theorem hf192_253 : pi_fetch mc_192 253 = some (.aload_n 0, 1) := rfl
theorem hf192_254 : pi_fetch mc_192 254 = some (.getfield 235, 3) := rfl
theorem hf192_257 : pi_fetch mc_192 257 = some (.ireturn, 1) := rfl
def hm192 : pi_M := (11, 2, (some .int), false, mc_192)
def ia_G : af_G := ((11, 3, (some .boolean), mc_282), aw_Sh, [ak_793], 1, [(61, 0, 1)], [], [(18, (1, [(0, .inr (.inl 61)), (1, .inl (0, [0])), (2, .inl (0, []))], [], [], ([(0, 0, 1)], [], [])), [(0, 0, (0, []))])], [], [])
def ia_s : af_S := (1, [(0, .inr (.inl 61)), (1, .inl (0, [0]))], [], [], ([(0, 0, 1)], [], []))
set_option maxRecDepth 1000000 in
theorem ia_r : af_run 16 ia_G none (0, ia_s) = true := by decide +kernel
set_option maxRecDepth 1000000 in
theorem ia_l : (ia_G.2.2.2.2.2.2.1.take 0).all (fun q => af_pos q.2.1.2.2.2.2 q.2.2 && af_run 16 ia_G (some q.2.2) (q.1, q.2.1)) = true := by decide +kernel
theorem ia_w : ax_wf ia_G.2.2.2.1 ia_G.2.2.2.2.2.1 ia_G.2.2.2.2.2.2.1 = true := by decide +kernel
theorem ia_h : ∀ K ∈ ia_G.2.2.1, af_Holds ia_G.2.1 1 K := (af_HC ah_793 (by decide) af_HN)
def ian_G : af_G := ((11, 3, (some .boolean), mc_282), aw_Sh, [ak_411], 1, [(61, 0, 1)], [(1, [.inl (0, [])], [((61, 0), (0, []))], ([], [], []))], [], [], [])
def ian_s : af_S := (1, [(0, .inr (.inl 61)), (1, .inl (0, [0]))], [], [], ([(0, (-2147483648), (-1))], [], []))
set_option maxRecDepth 1000000 in
theorem ian_r : af_run 16 ian_G none (0, ian_s) = true := by decide +kernel
set_option maxRecDepth 1000000 in
theorem ian_l : (ian_G.2.2.2.2.2.2.1.take 0).all (fun q => af_pos q.2.1.2.2.2.2 q.2.2 && af_run 16 ian_G (some q.2.2) (q.1, q.2.1)) = true := by decide +kernel
theorem ian_w : ax_wf ian_G.2.2.2.1 ian_G.2.2.2.2.2.1 ian_G.2.2.2.2.2.2.1 = true := by decide +kernel
theorem ian_h : ∀ K ∈ ian_G.2.2.1, af_Holds ian_G.2.1 1 K := (af_HC ah_411 (by decide) af_HN)
def iap_G : af_G := ((11, 3, (some .boolean), mc_282), aw_Sh, [ak_411], 1, [(61, 0, 1)], [(1, [.inl (0, [])], [((61, 0), (0, []))], ([], [], []))], [], [], [])
def iap_s : af_S := (1, [(0, .inr (.inl 61)), (1, .inl (0, [0]))], [], [], ([(0, 2, 2147483647)], [], []))
set_option maxRecDepth 1000000 in
theorem iap_r : af_run 16 iap_G none (0, iap_s) = true := by decide +kernel
set_option maxRecDepth 1000000 in
theorem iap_l : (iap_G.2.2.2.2.2.2.1.take 0).all (fun q => af_pos q.2.1.2.2.2.2 q.2.2 && af_run 16 iap_G (some q.2.2) (q.1, q.2.1)) = true := by decide +kernel
theorem iap_w : ax_wf iap_G.2.2.2.1 iap_G.2.2.2.2.2.1 iap_G.2.2.2.2.2.2.1 = true := by decide +kernel
theorem iap_h : ∀ K ∈ iap_G.2.2.1, af_Holds iap_G.2.1 1 K := (af_HC ah_411 (by decide) af_HN)
def ib_G : af_G := ((11, 3, (some .boolean), mc_282), aw_Sh, [], 1, [(77, 0, 54), (78, 0, 2)], [(1, [.inl (1, [])], [], ([], [], []))], [(51, (2, [(0, .inr (.inl 61)), (1, .inl (0, [0])), (2, .inl (0, [1]))], [], [], ([(1, 0, 27), (0, 0, 1)], [], [])), [(1, 0, (0, [])), (2147483647, 1, (0, [1])), (0, 0, (0, []))])], [], [])
def ib_s : af_S := (1, [(0, .inr (.inl 61)), (1, .inl (0, [0]))], [], [], ([(0, 0, 1)], [], []))
set_option maxRecDepth 1000000 in
theorem ib_r : af_run 23 ib_G none (49, ib_s) = true := by decide +kernel
set_option maxRecDepth 1000000 in
theorem ib_l : (ib_G.2.2.2.2.2.2.1.take 1).all (fun q => af_pos q.2.1.2.2.2.2 q.2.2 && af_run 23 ib_G (some q.2.2) (q.1, q.2.1)) = true := by decide +kernel
theorem ib_w : ax_wf ib_G.2.2.2.1 ib_G.2.2.2.2.2.1 ib_G.2.2.2.2.2.2.1 = true := by decide +kernel
theorem ib_h : ∀ K ∈ ib_G.2.2.1, af_Holds ib_G.2.1 0 K := af_HN
def ra_G : af_G := ((11, 3, (some .boolean), mc_283), aw_Sh, [ak_411], 1, [(61, 0, 1)], [(1, [.inl (0, [])], [((61, 0), (0, []))], ([], [], []))], [(27, (1, [(0, .inr (.inl 61)), (1, .inl (0, [0])), (2, .inl (0, []))], [], [], ([(0, 0, 1)], [], [])), [(0, 0, (0, []))])], [], [])
def ra_s : af_S := (1, [(0, .inr (.inl 61)), (1, .inl (0, [0]))], [], [], ([(0, (-2147483648), 2147483647)], [], []))
set_option maxRecDepth 1000000 in
theorem ra_r : af_run 21 ra_G none (0, ra_s) = true := by decide +kernel
set_option maxRecDepth 1000000 in
theorem ra_l : (ra_G.2.2.2.2.2.2.1.take 0).all (fun q => af_pos q.2.1.2.2.2.2 q.2.2 && af_run 21 ra_G (some q.2.2) (q.1, q.2.1)) = true := by decide +kernel
theorem ra_w : ax_wf ra_G.2.2.2.1 ra_G.2.2.2.2.2.1 ra_G.2.2.2.2.2.2.1 = true := by decide +kernel
theorem ra_h : ∀ K ∈ ra_G.2.2.1, af_Holds ra_G.2.1 1 K := (af_HC ah_411 (by decide) af_HN)
def rb_G : af_G := ((11, 3, (some .boolean), mc_283), aw_Sh, [], 1, [(61, 22, 23), (66, 0, 27)], [(1, [.inl (1, [])], [((61, 22), (0, []))], ([], [], []))], [(60, (2, [(0, .inr (.inl 61)), (1, .inl (0, [0])), (2, .inl (0, [1]))], [], [], ([(1, 0, 27), (0, 0, 1)], [], [])), [(1, 0, (0, [])), (2147483647, 1, (0, [1])), (0, 0, (0, []))])], [], [])
def rb_s : af_S := (1, [(0, .inr (.inl 61)), (1, .inl (0, [0]))], [], [], ([(0, 0, 1)], [], []))
set_option maxRecDepth 1000000 in
theorem rb_r : af_run 23 rb_G none (58, rb_s) = true := by decide +kernel
set_option maxRecDepth 1000000 in
theorem rb_l : (rb_G.2.2.2.2.2.2.1.take 1).all (fun q => af_pos q.2.1.2.2.2.2 q.2.2 && af_run 23 rb_G (some q.2.2) (q.1, q.2.1)) = true := by decide +kernel
theorem rb_w : ax_wf rb_G.2.2.2.1 rb_G.2.2.2.2.2.1 rb_G.2.2.2.2.2.2.1 = true := by decide +kernel
theorem rb_h : ∀ K ∈ rb_G.2.2.1, af_Holds rb_G.2.1 0 K := af_HN
def la_G : af_G := ((11, 2, (some .int), mc_192), aw_Sh, [ak_481, ak_490, ak_524, ak_796], 1, [(61, 0, 1), (61, 2, 6), (61, 11, 20), (64, 0, 115), (66, 27, 54)], [(6, [.inl (0, [1])], [((61, 0), (0, [])), ((61, 2), (0, [])), ((61, 3), (0, [2])), ((61, 4), (0, [3])), ((61, 5), (900, [])), ((61, 15), (0, [4])), ((61, 16), (0, [5]))], ([(1, (-941), (-1)), (2, 1, 940), (3, 0, 940), (4, 1, 4), (5, 0, 940)], [(3, 0, (-940))], []))], [(24, (2, [(0, .inr (.inl 61)), (1, .inl (0, [1]))], [], [((61, 0), (0, [])), ((61, 2), (0, [])), ((61, 4), (0, [])), ((61, 5), (900, [])), ((61, 15), (0, [])), ((61, 19), (0, []))], ([(1, 0, 115), (0, 0, 940)], [], [])), [(2, 0, (0, [])), (2147483647, 1, (0, [1])), (0, 0, (0, []))]),
  (47, (5, [(0, .inr (.inl 61)), (1, .inl (0, [1]))], [], [((61, 0), (0, [])), ((61, 2), (0, [])), ((61, 3), (0, [2])), ((61, 4), (0, [3])), ((61, 5), (900, [])), ((61, 11), (4, [])), ((61, 12), (0, [4]))], ([(1, 115, 2147483646), (2, 1, 940), (3, 0, 940), (4, 0, 939), (0, 0, 940)], [(3, 0, (-940))], [])), [(1, 0, (0, [])), (940, 1, (0, [3])), (0, 0, (0, []))]),
  (47, (7, [(0, .inr (.inl 61)), (1, .inl (0, [1]))], [], [((61, 0), (0, [])), ((61, 2), (0, [])), ((61, 3), (0, [2])), ((61, 4), (0, [3])), ((61, 5), (900, [])), ((61, 11), (0, [4])), ((61, 12), (0, [5])), ((61, 13), (0, [6]))], ([(1, 115, 2147483646), (2, 1, 940), (3, 1, 940), (4, 1, 3), (5, 0, 939), (6, (-2147483648), 7), (0, 0, 940)], [(3, 0, (-939))], [])), [(1, 0, (0, [])), (940, 1, (0, [3])), (1, 0, (0, []))]),
  (47, (3, [(0, .inr (.inl 61)), (1, .inl (0, [1]))], [], [((61, 0), (0, [])), ((61, 2), (0, [])), ((61, 4), (0, [2])), ((61, 5), (900, [])), ((61, 11), (0, [])), ((61, 13), (0, []))], ([(1, 115, 2147483646), (2, 0, 940), (0, 0, 940)], [(2, 0, (-940))], [])), [(1, 0, (0, [])), (940, 1, (0, [2])), (0, 0, (0, []))]),
  (90, (3, [(0, .inr (.inl 61)), (1, .inl (0, [1]))], [], [((61, 0), (0, [])), ((61, 2), (0, [])), ((61, 4), (0, [2])), ((61, 5), (900, [])), ((61, 11), (0, [])), ((61, 13), (0, []))], ([(1, 115, 2147483646), (2, 0, 940), (0, 0, 940)], [(2, 0, (-940))], [])), [(0, 0, (0, []))])], [(63, 0, 411), (64, 0, 115)], [])
def la_s : af_S := (1, [(0, .inr (.inl 61))], [], [((61, 4), (0, [0]))], ([(0, 0, 940)], [], []))
set_option maxRecDepth 1000000 in
theorem la_r : af_run 23 la_G none (0, la_s) = true := by decide +kernel
set_option maxRecDepth 1000000 in
theorem la_l : (la_G.2.2.2.2.2.2.1.take 4).all (fun q => af_pos q.2.1.2.2.2.2 q.2.2 && af_run 23 la_G (some q.2.2) (q.1, q.2.1)) = true := by decide +kernel
theorem la_w : ax_wf la_G.2.2.2.1 la_G.2.2.2.2.2.1 la_G.2.2.2.2.2.2.1 = true := by decide +kernel
theorem la_h : ∀ K ∈ la_G.2.2.1, af_Holds la_G.2.1 11 K := (af_HC ah_481 (by decide) (af_HC ah_490 (by decide) (af_HC ah_524 (by decide) (af_HC ah_796 (by decide) af_HN))))
def lb_G : af_G := ((11, 2, (some .int), mc_192), aw_Sh, [ak_400], 0, [(61, 22, 23), (63, 120, 126), (63, 138, 220), (66, 0, 27)], [(1, [.inl (0, [0])], [((61, 22), (0, []))], ([(0, (-2147483648), 2147483647)], [], []))], [(129, (1, [(0, .inr (.inl 61)), (1, .inl (0, [0]))], [], [((63, 230), (0, []))], ([(0, 0, 27)], [], [])), [(4, 0, (0, [])), (2147483647, 1, (0, [0])), (0, 0, (0, []))]),
  (158, (1, [(0, .inr (.inl 61)), (1, .inl (0, [0]))], [], [((63, 230), (0, []))], ([(0, 0, 10)], [], [])), [(3, 0, (0, [])), (2147483647, 1, (0, [0])), (0, 0, (0, []))]),
  (191, (1, [(0, .inr (.inl 61)), (1, .inl (0, [0]))], [], [((63, 230), (0, []))], ([(0, 0, 6)], [], [])), [(2, 0, (0, [])), (2147483647, 1, (0, [0])), (0, 0, (0, []))]),
  (227, (1, [(0, .inr (.inl 61)), (1, .inl (0, [0]))], [], [((63, 230), (0, []))], ([(0, 0, 6)], [], [])), [(1, 0, (0, [])), (2147483647, 1, (0, [0])), (0, 0, (0, []))])], [(63, 0, 230), (63, 231, 411)], [])
def lb_s : af_S := (0, [(0, .inr (.inl 61))], [], [((63, 230), (0, []))], ([], [], []))
set_option maxRecDepth 1000000 in
theorem lb_r : af_run 26 lb_G none (127, lb_s) = true := by decide +kernel
set_option maxRecDepth 1000000 in
theorem lb_l : (lb_G.2.2.2.2.2.2.1.take 4).all (fun q => af_pos q.2.1.2.2.2.2 q.2.2 && af_run 26 lb_G (some q.2.2) (q.1, q.2.1)) = true := by decide +kernel
theorem lb_w : ax_wf lb_G.2.2.2.1 lb_G.2.2.2.2.2.1 lb_G.2.2.2.2.2.2.1 = true := by decide +kernel
theorem lb_h : ∀ K ∈ lb_G.2.2.1, af_Holds lb_G.2.1 4 K := (af_HC ah_400 (by decide) af_HN)
def hq_S76 : List (Nat × Int × Int) := match (aw_Sh[76]? : Option af_C) with
  | some (.inl (_, _, S)) => S
  | _ => []
theorem hq_s76 : aw_Sh[76]? = some (.inl (0, 822, hq_S76)) := rfl
theorem hq_7663 : ∀ k, k < 2 → ∀ j, j < 411 → af_seg hq_S76 (411 * k + j) = af_seg hq_S63 j := by decide +kernel
theorem hq_arrb {w : pi_W} (hC : af_Conf aw_Sh w) {a t m : Nat} {S : List (Nat × Int × Int)} (hSh : aw_Sh[a]? = some (.inl (t, m, S))) (ht : t ≠ 2) : ∃ f : Nat → Int32, ∀ j, j < m → af_wloc w a j = some (.int (f j)) ∧ ∃ q, af_seg S j = some q ∧ q.1 ≤ (f j).toInt ∧ (f j).toInt ≤ q.2 := by
  obtain ⟨e, he, hoc⟩ := hC.at hSh
  obtain ⟨fn, rfl, hfn⟩ := af_okA.int ht hoc
  refine ⟨fn, fun j hj => ⟨?_, hfn j hj⟩⟩
  unfold af_wloc
  rw [he]
  simp only [af_cloc, if_pos hj]
section HX
variable {own nL pc n m : Nat} {ini : Bool} {lv : pi_L} {r : List Value} {w : pi_W}
theorem hs_m411 : pi_step own ini nL .imul 1 (pc, lv, .int (Int32.ofNat n) :: .int (Int16.ofInt 411).toInt32 :: r, w) = some (pc + 1, lv, .int (Int32.ofNat (411 * n)) :: r, w) := by
  rw [Int32.ofNat_mul]
  rfl
theorem hs_ann : pi_step own ini nL .iadd 1 (pc, lv, .int (Int32.ofNat n) :: .int (Int32.ofNat m) :: r, w) = some (pc + 1, lv, .int (Int32.ofNat (m + n)) :: r, w) := by
  rw [← hn_a]
  rfl
end HX
theorem hw_411 : (Int16.ofInt 411).toInt32.toInt = 411 := by decide
def hi_M (kk : Nat) : af_M := [(61, 0, 1), (76, 411 * kk, 411 * kk + 411)]
theorem hi_c {kk c j : Nat} : af_cov (hi_M kk) c j j = true ↔ (c = 61 ∧ j = 0) ∨ (c = 76 ∧ 411 * kk ≤ j ∧ j < 411 * kk + 411) := by
  unfold af_cov hi_M
  simp only [List.any_cons, List.any_nil, Bool.or_false, Bool.or_eq_true, Bool.and_eq_true, beq_iff_eq, Nat.ble_eq, Nat.blt_eq]
  omega
theorem hi_l1 {d kk : Nat} {w0 : pi_W} {Q : Option Value → pi_W → Prop} (hk : kk < 2) (hQ : ∀ (w : pi_W) (lv : pi_L), af_Conf aw_Sh w → af_Fr (hi_M kk) w0 w → (∀ j, j < 411 → af_wloc w 76 (411 * kk + j) = af_wloc w0 63 j) → pi_get lv 0 = some (.ref 61) → pi_get lv 1 = some (.int (Int32.ofNat kk)) → hq_F d hm282 Q (49, lv, [], w)) : ∀ (n i : Nat) {w : pi_W} {lv : pi_L}, i + n = 411 → af_Conf aw_Sh w → af_Fr (hi_M kk) w0 w → (∀ j, j < i → af_wloc w 76 (411 * kk + j) = af_wloc w0 63 j) → pi_get lv 0 = some (.ref 61) → pi_get lv 1 = some (.int (Int32.ofNat kk)) → pi_get lv 2 = some (.int (Int32.ofNat i)) → hq_F d hm282 Q (18, lv, [], w) := by
  intro n
  induction n with
  | zero =>
    intro i w lv hn hC hF hj g0 g1 g2
    refine hq_F.st (s' := (19, _, _, _)) hf282_18 rfl rfl rfl (hs_iln g2) ?_
    refine hq_F.st (s' := (22, _, _, _)) hf282_19 rfl rfl rfl rfl ?_
    refine hq_F.st (s' := (49, _, _, _)) hf282_22 rfl rfl rfl (hs_ic (hc_ge (by rw [hw_411, hn_t (by omega)]; omega)) rfl) ?_
    exact hQ w lv hC hF (fun j h => hj j (by omega)) g0 g1
  | succ n ih =>
    intro i w lv hn hC hF hj g0 g1 g2
    obtain ⟨sf, hsf⟩ := hq_arrb hC hq_s63 (by decide)
    obtain ⟨hs1, q, hs2, hs3⟩ := hsf i (by omega)
    refine hq_F.st (s' := (19, _, _, _)) hf282_18 rfl rfl rfl (hs_iln g2) ?_
    refine hq_F.st (s' := (22, _, _, _)) hf282_19 rfl rfl rfl rfl ?_
    refine hq_F.st (s' := (25, _, _, _)) hf282_22 rfl rfl rfl (hs_icn (t := 49) (hc_gen (by rw [hw_411, hn_t (by omega)]; omega)) rfl) ?_
    refine hq_F.st (s' := (26, _, _, _)) hf282_25 rfl rfl rfl (hs_al g0) ?_
    refine hq_F.st (s' := (29, _, _, _)) hf282_26 rfl rfl rfl (hq_gf hC hq_s61 hk_75 (hq_ref hC hq_s61 (b := 76) rfl)) ?_
    refine hq_F.st (s' := (32, _, _, _)) hf282_29 rfl rfl rfl rfl ?_
    refine hq_F.st (s' := (33, _, _, _)) hf282_32 rfl rfl rfl (hs_iln g1) ?_
    refine hq_F.st (s' := (34, _, _, _)) hf282_33 rfl rfl rfl hs_m411 ?_
    refine hq_F.st (s' := (35, _, _, _)) hf282_34 rfl rfl rfl (hs_iln g2) ?_
    refine hq_F.st (s' := (36, _, _, _)) hf282_35 rfl rfl rfl hs_ann ?_
    refine hq_F.st (s' := (37, _, _, _)) hf282_36 rfl rfl rfl (hs_al g0) ?_
    refine hq_F.st (s' := (40, _, _, _)) hf282_37 rfl rfl rfl (hq_gf hC hq_s61 hk_33 (hq_ref hC hq_s61 (b := 63) rfl)) ?_
    refine hq_F.st (s' := (41, _, _, _)) hf282_40 rfl rfl rfl (hs_iln g2) ?_
    refine hq_F.st (s' := (42, _, _, _)) hf282_41 rfl rfl rfl (hq_ia hC hq_s63 (hn_t (by omega)) hs1) ?_
    refine hq_F.is hf282_42 hC hq_s76 (hn_t (by omega)) (by omega) (by
      intro q' hq'
      rw [hq_7663 kk hk i (by omega), hs2] at hq'
      cases hq'
      exact hs3) (fun w1 hC1 hF1 hv1 => ?_)
    refine hq_F.st (s' := (46, _, _, _)) hf282_43 rfl rfl rfl (hs_inc g2 (by decide)) ?_
    rw [hn_s]
    refine hq_F.st (s' := (18, _, _, _)) hf282_46 rfl rfl rfl rfl ?_
    refine ih (i + 1) (by omega) hC1 (hF.tr (hq_fr hF1 (fun c j hc => hi_c.mpr (by
      have := hq_cov1.mp hc
      omega)))) (fun j hj' => ?_) (pi_get_set_ne g0 (by decide) (fun q => (show ¬ ((1 : Nat) = 2) by decide) q.2)) (hg_ne g1 (by decide)) (pi_get_set _ _ _)
    by_cases e : j = i
    · rw [e, hv1, ← hs1]
      refine hF 63 i ?_
      cases hk2 : af_cov (hi_M kk) 63 i i with
      | false => rfl
      | true =>
        have := hi_c.mp hk2
        omega
    · exact (hq_one hF1 (Or.inr (by omega))).trans (hj j (by omega))
def hi_N (kk : Nat) : af_M := [(61, 0, 1), (76, 411 * kk, 411 * kk + 411), (77, 0, 54), (78, 0, 2)]
theorem hi_cN {kk c j : Nat} : af_cov (hi_N kk) c j j = true ↔ (c = 61 ∧ j = 0) ∨ (c = 76 ∧ 411 * kk ≤ j ∧ j < 411 * kk + 411) ∨ (c = 77 ∧ j < 54) ∨ (c = 78 ∧ j < 2) := by
  unfold af_cov hi_N
  simp only [List.any_cons, List.any_nil, Bool.or_false, Bool.or_eq_true, Bool.and_eq_true, beq_iff_eq, Nat.ble_eq, Nat.blt_eq]
  omega
def sq_I (k : Int32) (w : pi_W) (r : Option Value) (w' : pi_W) : Prop := af_Conf aw_Sh w' ∧ ((¬ (0 ≤ k.toInt ∧ k.toInt ≤ 1) ∧ r = some (.int 0) ∧ af_Fr [(61, 0, 1)] w w') ∨ ((0 ≤ k.toInt ∧ k.toInt ≤ 1) ∧ r = some (.int 1) ∧ ∃ kk, kk < 2 ∧ k = Int32.ofNat kk ∧ af_Fr (hi_N kk) w w' ∧ ∀ j, j < 411 → af_wloc w' 76 (411 * kk + j) = af_wloc w 63 j))
theorem hl_S1 {pc : Nat} {lv : pi_L} {w : pi_W} {k : Int32} {lo hi : Int} (g0 : pi_get lv 0 = some (.ref 61)) (g1 : pi_get lv 1 = some (.int k)) (hC : af_Conf aw_Sh w) (h : lo ≤ k.toInt ∧ k.toInt ≤ hi) : af_Sat aw_Sh (fun _ => k.toInt) (1, [(0, .inr (.inl 61)), (1, .inl (0, [0]))], [], [], ([(0, lo, hi)], [], [])) (pc, lv, [], w) := by
  refine ⟨?_, trivial, hC, (fun e he => by cases he), ?_, (fun e he => by cases he), (fun e he => by cases he)⟩
  · intro e he
    simp only [List.mem_cons, List.not_mem_nil, or_false] at he
    rcases he with rfl | rfl
    · exact ⟨_, g0, rfl⟩
    · exact ⟨_, g1, (fun v hv => by simp at hv; subst hv; exact Nat.le_of_ble_eq_true rfl), _, rfl, by simp [af_ev]⟩
  · intro e he
    simp only [List.mem_singleton] at he
    subst he
    exact ⟨Nat.le_of_ble_eq_true rfl, h⟩
theorem hs_image {d : Nat} {k : Int32} {w : pi_W} (hd : 1 ≤ d) (hC : af_Conf aw_Sh w) : hq_F (d + 1) hm282 (sq_I k w) (0, lv_args 0 [.ref 61, .int k], [], w) := by
  have hkr : (-2147483648 : Int) ≤ k.toInt ∧ k.toInt ≤ 2147483647 := af_i32 k
  have g0 : pi_get (lv_args 0 [.ref 61, .int k]) 0 = some (.ref 61) := rfl
  have g1 : pi_get (lv_args 0 [.ref 61, .int k]) 1 = some (.int k) := rfl
  revert g0 g1
  generalize lv_args 0 [.ref 61, .int k] = lv
  intro g0 g1
  by_cases hk : 0 ≤ k.toInt ∧ k.toInt ≤ 1
  · refine ax_seg (Φ := hq_F _ _ _) (G := ia_G) (d := d) (mi := hm282) (nl := 0) rfl (fun K hK => (ia_h K hK).mono (by omega)) ia_w ia_l ia_r rfl (hl_S1 g0 g1 hC hk) (fun s s' h1 h2 => hq_F.to h1 h2) (fun s hfin => hq_fin hfin (fun r w' hC' hF' hP' => ?_)) (fun s' q ρ' hq hpc hS hag hF => ?_)
    · obtain ⟨P, hPm, -⟩ := hP'
      simp [ia_G] at hPm
    · obtain ⟨pc', lv2, st', w2⟩ := s'
      have a0 : ρ' 0 = k.toInt := hag 0 (by decide)
      simp only [ia_G, List.drop, List.mem_singleton] at hq
      subst hq
      dsimp only at hpc hS
      subst hpc
      obtain ⟨hL, hst, hC2, hT, hK⟩ := hS
      replace hC2 : af_Conf aw_Sh w2 := hC2
      dsimp only at hL hst hT hK
      have hstn := af_St.nil hst
      subst hstn
      obtain ⟨y1, q1, f1⟩ := hl_int hL (i := 1) (f := (0, [0])) (by simp)
      obtain ⟨y2, q2, f2⟩ := hl_int hL (i := 2) (f := (0, [])) (by simp)
      rw [af_ev_1] at f1
      rw [af_ev_c] at f2
      have e1 : y1 = Int32.ofNat k.toInt.toNat := hn_e (by omega) (by omega)
      have e2 : y2 = Int32.ofNat 0 := hn_e (by omega) (by omega)
      have ek : k = Int32.ofNat k.toInt.toNat := hn_i hk.1
      obtain ⟨kk, hkk⟩ : ∃ kk, kk = k.toInt.toNat := ⟨_, rfl⟩
      rw [← hkk] at e1 ek
      subst e1 e2
      have hF61 : af_Fr [(61, 0, 1)] w w2 := hF
      refine hi_l1 (kk := kk) (by omega) ?_ 411 0 (by omega) hC2 (hq_fr hF61 (fun c j hc => hi_c.mpr (by
        have := hq_cov1.mp hc
        omega))) (fun j hj => by omega) (hl_ref hL (by simp)) q1 q2
      intro w3 lv3 hC3 hF3 hcp p0 p1
      refine ax_seg (Φ := hq_F _ _ _) (G := ib_G) (d := d) (mi := hm282) (nl := 1) rfl (fun K hK => (ib_h K hK).mono (by omega)) ib_w ib_l ib_r rfl (hl_S1 p0 p1 hC3 (by rw [hn_t (by omega)]; omega)) (fun s s' h1 h2 => hq_F.to h1 h2) (fun s hfin => hq_fin hfin (fun r w' hC' hF' hP' => ?_)) (fun s' q ρ' hq => absurd hq (by simp [ib_G]))
      obtain ⟨P, hPm, ρ2, -, hst, -⟩ := hP'
      simp only [ib_G, List.mem_singleton] at hPm
      subst hPm
      obtain ⟨x, rfl, hx⟩ := hl_res hst
      rw [af_ev_c] at hx
      refine ⟨hC', Or.inr ⟨hk, by rw [hn_1e hx], kk, by omega, ek, ?_, fun j hj => ?_⟩⟩
      · refine (hq_fr hF3 (fun c j hc => hi_cN.mpr ?_)).tr (hq_fr (M := [(77, 0, 54), (78, 0, 2)]) hF' (fun c j hc => hi_cN.mpr ?_))
        · have := hi_c.mp hc
          omega
        · unfold af_cov at hc
          simp only [List.any_cons, List.any_nil, Bool.or_false, Bool.or_eq_true, Bool.and_eq_true, beq_iff_eq, Nat.ble_eq, Nat.blt_eq] at hc
          omega
      · rw [hq_cell (c := 76) hF' (by decide)]
        rw [hcp j hj]
  · by_cases hk0 : k.toInt ≤ -1
    · refine ax_seg (Φ := hq_F _ _ _) (G := ian_G) (d := d) (mi := hm282) (nl := 0) rfl (fun K hK => (ian_h K hK).mono (by omega)) ian_w ian_l ian_r rfl (hl_S1 g0 g1 hC ⟨hkr.1, hk0⟩) (fun s s' h1 h2 => hq_F.to h1 h2) (fun s hfin => hq_fin hfin (fun r w' hC' hF' hP' => ?_)) (fun s' q ρ' hq => absurd hq (by simp [ian_G]))
      obtain ⟨P, hPm, ρ2, -, hst, -⟩ := hP'
      simp only [ian_G, List.mem_singleton] at hPm
      subst hPm
      obtain ⟨x, rfl, hx⟩ := hl_res hst
      rw [af_ev_c] at hx
      exact ⟨hC', Or.inl ⟨hk, by rw [hn_0 hx], hF'⟩⟩
    · refine ax_seg (Φ := hq_F _ _ _) (G := iap_G) (d := d) (mi := hm282) (nl := 0) rfl (fun K hK => (iap_h K hK).mono (by omega)) iap_w iap_l iap_r rfl (hl_S1 g0 g1 hC ⟨by omega, hkr.2⟩) (fun s s' h1 h2 => hq_F.to h1 h2) (fun s hfin => hq_fin hfin (fun r w' hC' hF' hP' => ?_)) (fun s' q ρ' hq => absurd hq (by simp [iap_G]))
      obtain ⟨P, hPm, ρ2, -, hst, -⟩ := hP'
      simp only [iap_G, List.mem_singleton] at hPm
      subst hPm
      obtain ⟨x, rfl, hx⟩ := hl_res hst
      rw [af_ev_c] at hx
      exact ⟨hC', Or.inl ⟨hk, by rw [hn_0 hx], hF'⟩⟩
/-! restore -/
def hr_M : af_M := [(61, 0, 1), (63, 0, 411)]
theorem hr_c {c j : Nat} : af_cov hr_M c j j = true ↔ (c = 61 ∧ j = 0) ∨ (c = 63 ∧ j < 411) := by
  unfold af_cov hr_M
  simp only [List.any_cons, List.any_nil, Bool.or_false, Bool.or_eq_true, Bool.and_eq_true, beq_iff_eq, Nat.ble_eq, Nat.blt_eq]
  omega
theorem hr_l1 {d kk : Nat} {w0 : pi_W} {Q : Option Value → pi_W → Prop} (hk : kk < 2) (hQ : ∀ (w : pi_W) (lv : pi_L), af_Conf aw_Sh w → af_Fr hr_M w0 w → (∀ j, j < 411 → af_wloc w 63 j = af_wloc w0 76 (411 * kk + j)) → pi_get lv 0 = some (.ref 61) → pi_get lv 1 = some (.int (Int32.ofNat kk)) → hq_F d hm283 Q (58, lv, [], w)) : ∀ (n i : Nat) {w : pi_W} {lv : pi_L}, i + n = 411 → af_Conf aw_Sh w → af_Fr hr_M w0 w → (∀ j, j < i → af_wloc w 63 j = af_wloc w0 76 (411 * kk + j)) → pi_get lv 0 = some (.ref 61) → pi_get lv 1 = some (.int (Int32.ofNat kk)) → pi_get lv 2 = some (.int (Int32.ofNat i)) → hq_F d hm283 Q (27, lv, [], w) := by
  intro n
  induction n with
  | zero =>
    intro i w lv hn hC hF hj g0 g1 g2
    refine hq_F.st (s' := (28, _, _, _)) hf283_27 rfl rfl rfl (hs_iln g2) ?_
    refine hq_F.st (s' := (31, _, _, _)) hf283_28 rfl rfl rfl rfl ?_
    refine hq_F.st (s' := (58, _, _, _)) hf283_31 rfl rfl rfl (hs_ic (hc_ge (by rw [hw_411, hn_t (by omega)]; omega)) rfl) ?_
    exact hQ w lv hC hF (fun j h => hj j (by omega)) g0 g1
  | succ n ih =>
    intro i w lv hn hC hF hj g0 g1 g2
    obtain ⟨sf, hsf⟩ := hq_arrb hC hq_s76 (by decide)
    obtain ⟨hs1, q, hs2, hs3⟩ := hsf (411 * kk + i) (by omega)
    refine hq_F.st (s' := (28, _, _, _)) hf283_27 rfl rfl rfl (hs_iln g2) ?_
    refine hq_F.st (s' := (31, _, _, _)) hf283_28 rfl rfl rfl rfl ?_
    refine hq_F.st (s' := (34, _, _, _)) hf283_31 rfl rfl rfl (hs_icn (t := 58) (hc_gen (by rw [hw_411, hn_t (by omega)]; omega)) rfl) ?_
    refine hq_F.st (s' := (35, _, _, _)) hf283_34 rfl rfl rfl (hs_al g0) ?_
    refine hq_F.st (s' := (38, _, _, _)) hf283_35 rfl rfl rfl (hq_gf hC hq_s61 hk_33 (hq_ref hC hq_s61 (b := 63) rfl)) ?_
    refine hq_F.st (s' := (39, _, _, _)) hf283_38 rfl rfl rfl (hs_iln g2) ?_
    refine hq_F.st (s' := (40, _, _, _)) hf283_39 rfl rfl rfl (hs_al g0) ?_
    refine hq_F.st (s' := (43, _, _, _)) hf283_40 rfl rfl rfl (hq_gf hC hq_s61 hk_75 (hq_ref hC hq_s61 (b := 76) rfl)) ?_
    refine hq_F.st (s' := (46, _, _, _)) hf283_43 rfl rfl rfl rfl ?_
    refine hq_F.st (s' := (47, _, _, _)) hf283_46 rfl rfl rfl (hs_iln g1) ?_
    refine hq_F.st (s' := (48, _, _, _)) hf283_47 rfl rfl rfl hs_m411 ?_
    refine hq_F.st (s' := (49, _, _, _)) hf283_48 rfl rfl rfl (hs_iln g2) ?_
    refine hq_F.st (s' := (50, _, _, _)) hf283_49 rfl rfl rfl hs_ann ?_
    refine hq_F.st (s' := (51, _, _, _)) hf283_50 rfl rfl rfl (hq_ia hC hq_s76 (hn_t (by omega)) hs1) ?_
    refine hq_F.is hf283_51 hC hq_s63 (hn_t (by omega)) (by omega) (by
      intro q' hq'
      rw [← hq_7663 kk hk i (by omega), hs2] at hq'
      cases hq'
      exact hs3) (fun w1 hC1 hF1 hv1 => ?_)
    refine hq_F.st (s' := (55, _, _, _)) hf283_52 rfl rfl rfl (hs_inc g2 (by decide)) ?_
    rw [hn_s]
    refine hq_F.st (s' := (27, _, _, _)) hf283_55 rfl rfl rfl rfl ?_
    refine ih (i + 1) (by omega) hC1 (hF.tr (hq_fr hF1 (fun c j hc => hr_c.mpr (by
      have := hq_cov1.mp hc
      omega)))) (fun j hj' => ?_) (pi_get_set_ne g0 (by decide) (fun q => (show ¬ ((1 : Nat) = 2) by decide) q.2)) (hg_ne g1 (by decide)) (pi_get_set _ _ _)
    by_cases e : j = i
    · rw [e, hv1, ← hs1]
      refine hF 76 (411 * kk + i) ?_
      cases hk2 : af_cov hr_M 76 (411 * kk + i) (411 * kk + i) with
      | false => rfl
      | true =>
        have := hr_c.mp hk2
        omega
    · exact (hq_one hF1 (Or.inr (by omega))).trans (hj j (by omega))
def hr_N : af_M := [(61, 0, 1), (61, 22, 23), (63, 0, 411), (66, 0, 27)]
def sq_R (w : pi_W) (_r : Option Value) (w' : pi_W) : Prop := af_Conf aw_Sh w' ∧ af_Fr hr_N w w' ∧ ((∀ j, af_wloc w' 63 j = af_wloc w 63 j) ∨ ∃ kk, kk < 2 ∧ ∀ j, j < 411 → af_wloc w' 63 j = af_wloc w 76 (411 * kk + j))
theorem hs_restore {d : Nat} {k : Int32} {w : pi_W} (hd : 1 ≤ d) (hC : af_Conf aw_Sh w) : hq_F (d + 1) hm283 (sq_R w) (0, lv_args 0 [.ref 61, .int k], [], w) := by
  have hkr : (-2147483648 : Int) ≤ k.toInt ∧ k.toInt ≤ 2147483647 := af_i32 k
  have g0 : pi_get (lv_args 0 [.ref 61, .int k]) 0 = some (.ref 61) := rfl
  have g1 : pi_get (lv_args 0 [.ref 61, .int k]) 1 = some (.int k) := rfl
  revert g0 g1
  generalize lv_args 0 [.ref 61, .int k] = lv
  intro g0 g1
  refine ax_seg (Φ := hq_F _ _ _) (G := ra_G) (d := d) (mi := hm283) (nl := 0) rfl (fun K hK => (ra_h K hK).mono (by omega)) ra_w ra_l ra_r rfl (hl_S1 g0 g1 hC hkr) (fun s s' h1 h2 => hq_F.to h1 h2) (fun s hfin => hq_fin hfin (fun r w' hC' hF' hP' => ?_)) (fun s' q ρ' hq hpc hS hag hF => ?_)
  · exact ⟨hC', hF'.cov (by decide), Or.inl (fun j => hq_cell hF' (by decide))⟩
  · obtain ⟨pc', lv2, st', w2⟩ := s'
    have a0 : ρ' 0 = k.toInt := hag 0 (by decide)
    simp only [ra_G, List.drop, List.mem_singleton] at hq
    subst hq
    dsimp only at hpc hS
    subst hpc
    obtain ⟨hL, hst, hC2, hT, hK⟩ := hS
    replace hC2 : af_Conf aw_Sh w2 := hC2
    dsimp only at hL hst hT hK
    have hstn := af_St.nil hst
    subst hstn
    have hk := (hK.1 (0, 0, 1) (by simp)).2
    dsimp only at hk
    obtain ⟨y1, q1, f1⟩ := hl_int hL (i := 1) (f := (0, [0])) (by simp)
    obtain ⟨y2, q2, f2⟩ := hl_int hL (i := 2) (f := (0, [])) (by simp)
    rw [af_ev_1] at f1
    rw [af_ev_c] at f2
    have e1 : y1 = Int32.ofNat k.toInt.toNat := hn_e (by omega) (by omega)
    have e2 : y2 = Int32.ofNat 0 := hn_e (by omega) (by omega)
    obtain ⟨kk, hkk⟩ : ∃ kk, kk = k.toInt.toNat := ⟨_, rfl⟩
    rw [← hkk] at e1
    subst e1 e2
    have h76 : ∀ j, af_wloc w2 76 j = af_wloc w 76 j := fun j => hq_cell hF (by decide)
    refine hr_l1 (kk := kk) (by omega) ?_ 411 0 (by omega) hC2 (hF.cov (by decide)) (fun j hj => by omega) (hl_ref hL (by simp)) q1 q2
    intro w3 lv3 hC3 hF3 hcp p0 p1
    refine ax_seg (Φ := hq_F _ _ _) (G := rb_G) (d := d) (mi := hm283) (nl := 1) rfl (fun K hK => (rb_h K hK).mono (by omega)) rb_w rb_l rb_r rfl (hl_S1 p0 p1 hC3 (by rw [hn_t (by omega)]; omega)) (fun s s' h1 h2 => hq_F.to h1 h2) (fun s hfin => hq_fin hfin (fun r w' hC' hF' hP' => ?_)) (fun s' q ρ' hq => absurd hq (by simp [rb_G]))
    exact ⟨hC', (hF3.cov (by decide)).tr (hF'.cov (by decide)), Or.inr ⟨kk, by omega, fun j hj => by rw [hq_cell (c := 63) hF' (by decide), hcp j hj]⟩⟩
/-! land -/
def hl_N : af_M := [(61, 0, 1), (61, 2, 6), (61, 11, 20), (61, 22, 23), (63, 0, 411), (64, 0, 115), (66, 0, 54)]
def hq_S64 : List (Nat × Int × Int) := match (aw_Sh[64]? : Option af_C) with
  | some (.inl (_, _, S)) => S
  | _ => []
theorem hq_s64 : aw_Sh[64]? = some (.inl (0, 115, hq_S64)) := rfl
theorem hq_6463 : ∀ k, k < 115 → af_seg hq_S64 k = af_seg hq_S63 k := by decide +kernel
theorem hq_063 : ∀ k, k < 411 → 115 ≤ k → (match af_seg hq_S63 k with
    | some q => decide (q.1 ≤ 0) && decide (0 ≤ q.2)
    | none => false) = true := by decide +kernel
theorem hl_cN' {c n : Nat} (hc : c = 63) (h : n < 411) : af_cov hl_N c n n = true := by
  unfold af_cov hl_N
  simp only [List.any_cons, List.any_nil, Bool.or_false, Bool.or_eq_true, Bool.and_eq_true, beq_iff_eq, Nat.ble_eq, Nat.blt_eq]
  omega
theorem hl_cN {n : Nat} (h : n < 411) : af_cov hl_N 63 n n = true := hl_cN' rfl h
theorem hw_115 : (Int8.ofInt 115).toInt32.toInt = 115 := by decide
theorem hl_l1 {d : Nat} {w0 : pi_W} {Q : Option Value → pi_W → Prop} (hQ : ∀ (w : pi_W) (lv : pi_L), af_Conf aw_Sh w → af_Fr hl_N w0 w → af_wloc w 63 230 = some (.int 0) → pi_get lv 0 = some (.ref 61) → hq_F d hm192 Q (127, lv, [], w)) : ∀ (n k : Nat) {w : pi_W} {lv : pi_L}, k + n = 411 → af_Conf aw_Sh w → af_Fr hl_N w0 w → (230 < k → af_wloc w 63 230 = some (.int 0)) → pi_get lv 0 = some (.ref 61) → pi_get lv 1 = some (.int (Int32.ofNat k)) → hq_F d hm192 Q (92, lv, [], w) := by
  intro n
  induction n with
  | zero =>
    intro k w lv hn hC hF hj g0 g1
    refine hq_F.st (s' := (93, _, _, _)) hf192_92 rfl rfl rfl (hs_iln g1) ?_
    refine hq_F.st (s' := (96, _, _, _)) hf192_93 rfl rfl rfl rfl ?_
    refine hq_F.st (s' := (127, _, _, _)) hf192_96 rfl rfl rfl (hs_ic (hc_ge (by rw [hw_411, hn_t (by omega)]; omega)) rfl) ?_
    exact hQ w lv hC hF (hj (by omega)) g0
  | succ n ih =>
    intro k w lv hn hC hF hj g0 g1
    have hput : ∀ x : Int32, (∀ q, af_seg hq_S63 k = some q → q.1 ≤ x.toInt ∧ x.toInt ≤ q.2) → (k = 230 → x = 0) → hq_F d hm192 Q (120, lv, [.int x, .int (Int32.ofNat k), .ref 63], w) := by
      intro x hx hx0
      refine hq_F.is hf192_120 hC hq_s63 (hn_t (by omega)) (by omega) hx (fun w1 hC1 hF1 hv1 => ?_)
      refine hq_F.st (s' := (124, _, _, _)) hf192_121 rfl rfl rfl (hs_inc g1 (by decide)) ?_
      rw [hn_s]
      refine hq_F.st (s' := (92, _, _, _)) hf192_124 rfl rfl rfl rfl ?_
      refine ih (k + 1) (by omega) hC1 (hF.tr (hq_fr hF1 (fun c j hc => by
        obtain ⟨e1, e2⟩ := hq_cov1.mp hc
        rw [← e1, e2]
        exact hl_cN (by omega)))) (fun h => ?_) (pi_get_set_ne g0 (by decide) (fun q => (show ¬ ((1 : Nat) = 2) by decide) q.2)) (pi_get_set _ _ _)
      by_cases e : k = 230
      · rw [← hx0 e, ← e]
        exact hv1
      · exact (hq_one hF1 (Or.inr (fun q => e q.symm))).trans (hj (by omega))
    refine hq_F.st (s' := (93, _, _, _)) hf192_92 rfl rfl rfl (hs_iln g1) ?_
    refine hq_F.st (s' := (96, _, _, _)) hf192_93 rfl rfl rfl rfl ?_
    refine hq_F.st (s' := (99, _, _, _)) hf192_96 rfl rfl rfl (hs_icn (t := 127) (hc_gen (by rw [hw_411, hn_t (by omega)]; omega)) rfl) ?_
    refine hq_F.st (s' := (100, _, _, _)) hf192_99 rfl rfl rfl (hs_al g0) ?_
    refine hq_F.st (s' := (103, _, _, _)) hf192_100 rfl rfl rfl (hq_gf hC hq_s61 hk_33 (hq_ref hC hq_s61 (b := 63) rfl)) ?_
    refine hq_F.st (s' := (104, _, _, _)) hf192_103 rfl rfl rfl (hs_iln g1) ?_
    refine hq_F.st (s' := (105, _, _, _)) hf192_104 rfl rfl rfl (hs_iln g1) ?_
    refine hq_F.st (s' := (107, _, _, _)) hf192_105 rfl rfl rfl rfl ?_
    by_cases h115 : 115 ≤ k
    · refine hq_F.st (s' := (119, _, _, _)) hf192_107 rfl rfl rfl (hs_ic (hc_ge (by rw [hw_115, hn_t (by omega)]; omega)) rfl) ?_
      refine hq_F.st (s' := (120, lv, [.int 0, .int (Int32.ofNat k), .ref 63], w)) hf192_119 rfl rfl rfl rfl ?_
      refine hput 0 (fun q hq => ?_) (fun _ => rfl)
      have e := hq_063 k (by omega) h115
      rw [hq] at e
      simp only [Bool.and_eq_true, decide_eq_true_eq] at e
      exact e
    · refine hq_F.st (s' := (110, _, _, _)) hf192_107 rfl rfl rfl (hs_icn (t := 119) (hc_gen (by rw [hw_115, hn_t (by omega)]; omega)) rfl) ?_
      obtain ⟨sf, hsf⟩ := hq_arrb hC hq_s64 (by decide)
      obtain ⟨hs1, q, hs2, hs3⟩ := hsf k (by omega)
      refine hq_F.st (s' := (111, _, _, _)) hf192_110 rfl rfl rfl (hs_al g0) ?_
      refine hq_F.st (s' := (114, _, _, _)) hf192_111 rfl rfl rfl (hq_gf hC hq_s61 hk_37 (hq_ref hC hq_s61 (b := 64) rfl)) ?_
      refine hq_F.st (s' := (115, _, _, _)) hf192_114 rfl rfl rfl (hs_iln g1) ?_
      refine hq_F.st (s' := (116, _, _, _)) hf192_115 rfl rfl rfl (hq_ia hC hq_s64 (hn_t (by omega)) hs1) ?_
      refine hq_F.st (s' := (120, _, _, _)) hf192_116 rfl rfl rfl rfl ?_
      refine hput _ (fun q' hq' => ?_) (fun h => by omega)
      rw [← hq_6463 k (by omega), hs2] at hq'
      cases hq'
      exact hs3
theorem hs_land {d : Nat} {w : pi_W} (hd : 11 ≤ d) (hC : af_Conf aw_Sh w) : hq_F (d + 1) hm192 (fun _ w' => af_Conf aw_Sh w' ∧ af_Fr hl_N w w' ∧ (sv w 63 0 → sv w' 63 0)) (0, lv_args 0 [.ref 61], [], w) := by
  obtain ⟨p, hp, hp1⟩ := hq_int hC (c := 61) (i := 4) (lo := 0) (hi := 940) (by decide) rfl
  have hSat : af_Sat aw_Sh (fun _ => p.toInt) la_s (0, lv_args 0 [.ref 61], [], w) := by
    refine ⟨hl_L0 rfl, trivial, hC, ?_, ?_, (fun e he => by cases he), (fun e he => by cases he)⟩
    · intro e he
      simp only [la_s, List.mem_singleton] at he
      subst he
      exact hl_sl (by intro v hv; simp at hv; subst hv; decide) hp (by decide) (by simp [af_ev])
    · intro e he
      simp only [la_s, List.mem_singleton] at he
      subst he
      exact ⟨by decide, hp1⟩
  refine ax_seg (Φ := hq_F _ _ _) (G := la_G) (d := d) (mi := hm192) (nl := 4) rfl (fun K hK => (la_h K hK).mono (by omega)) la_w la_l la_r rfl hSat (fun s s' h1 h2 => hq_F.to h1 h2) (fun s hfin => hq_fin hfin (fun r w' hC' hF' hP' => ?_)) (fun s' q ρ' hq hpc hS hag hF => ?_)
  · exact ⟨hC', hF'.cov (by decide), fun h => h.fr (fun i _ _ => hq_cell hF' (by decide))⟩
  · obtain ⟨pc', lv2, st', w2⟩ := s'
    simp only [la_G, List.drop, List.mem_cons, List.not_mem_nil, or_false] at hq
    subst hq
    dsimp only at hpc hS
    subst hpc
    obtain ⟨hL, hst, hC2, hT, hK⟩ := hS
    replace hC2 : af_Conf aw_Sh w2 := hC2
    dsimp only at hL hst hT hK
    have hstn := af_St.nil hst
    subst hstn
    have p0 := hl_ref hL (i := 0) (k := 61) (by simp)
    have hF0 : af_Fr hl_N w w2 := hF.cov (by decide)
    refine hq_F.st (s' := (91, lv2, [.int (Int32.ofNat 0)], w2)) hf192_90 rfl rfl rfl rfl ?_
    refine hq_F.st (s' := (92, pi_set lv2 1 (.int (Int32.ofNat 0)), [], w2)) hf192_91 rfl rfl rfl rfl ?_
    refine hl_l1 (w0 := w) ?_ 411 0 (by omega) hC2 hF0 (fun h => by omega) (pi_get_set_ne p0 (by decide) (fun q => (show ¬ ((1 : Nat) = 2) by decide) q.2)) (pi_get_set _ _ _)
    intro w3 lv3 hC3 hF3 h230 q0
    have hSat3 : af_Sat aw_Sh (fun _ => 0) lb_s (127, lv3, [], w3) := by
      refine ⟨hl_L0 q0, trivial, hC3, ?_, hl_N0⟩
      intro e he
      simp only [lb_s, List.mem_singleton] at he
      subst he
      exact hl_sl (by intro v hv; cases hv) h230 (by decide) rfl
    refine ax_seg (Φ := hq_F _ _ _) (G := lb_G) (d := d) (mi := hm192) (nl := 4) rfl (fun K hK => (lb_h K hK).mono (by omega)) lb_w lb_l lb_r rfl hSat3 (fun s s' h1 h2 => hq_F.to h1 h2) (fun s hfin => hq_fin hfin (fun r w' hC' hF' hP' => ?_)) (fun s' q ρ' hq => absurd hq (by simp [lb_G]))
    obtain ⟨P, hPm, ρ2, -, hst, hT2, -⟩ := hP'
    simp only [lb_G, List.mem_singleton] at hPm
    subst hPm
    have hx1 : af_wloc w' 63 230 = some (.int 0) := (hF' 63 230 (by decide)).trans h230
    obtain ⟨sf, hsf⟩ := hq_arr hC' hq_s63 (by decide)
    exact ⟨hC', hF3.tr (hF'.cov (by decide)), fun _ => ⟨0, fun j => sf (231 + j), by decide, hx1, fun j hj => by rw [Nat.zero_add]; exact hsf _ (by omega), 0, rfl⟩⟩
