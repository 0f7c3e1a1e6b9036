/-! ===== the SENTENCE in the model: code, nots, joins; by program ===== -/
theorem sk_11_40 : pi_look pi_fT 11 40 = some (11, 8, 1255) := rfl
theorem sk_11_424 : pi_look pi_fT 11 424 = some (11, 36, 1283) := rfl
theorem sk_11_427 : pi_look pi_fT 11 427 = some (11, 38, 1285) := rfl
theorem sk_11_433 : pi_look pi_fT 11 433 = some (11, 39, 1286) := rfl
theorem sk_11_68 : pi_look pi_fT 11 68 = some (11, 35, 1282) := rfl
theorem si_11_430 : pi_look pi_iT 11 430 = some (2, 272, 3, 1809) := rfl
def sm272 : pi_M := (11, 4, none, false, mc_272)
def sm273 : pi_M := (11, 2, none, false, mc_273)
def sm274 : pi_M := (11, 1, none, false, mc_274)
def sm277 : pi_M := (11, 1, (some .boolean), false, mc_277)
def sf_65 : List (Nat × Int × Int) := match (aw_Sh[65]? : Option af_C) with
  | some (.inl (_, _, S)) => S
  | _ => []
theorem sh_65 : aw_Sh[65]? = some (.inl (0, 135, sf_65)) := rfl
def sf_74 : List (Nat × Int × Int) := match (aw_Sh[74]? : Option af_C) with
  | some (.inl (_, _, S)) => S
  | _ => []
theorem sh_74 : aw_Sh[74]? = some (.inl (0, 45, sf_74)) := rfl
set_option maxRecDepth 100000 in
theorem sz_272 : pi_mt[272]? = some (mn_272, prog_13_method_112_code, (11, 4, none, false, mc_272)) := rfl
set_option maxRecDepth 100000 in
theorem sz_273 : pi_mt[273]? = some (mn_273, prog_13_method_113_code, (11, 2, none, false, mc_273)) := rfl
set_option maxRecDepth 100000 in
theorem sz_274 : pi_mt[274]? = some (mn_274, prog_13_method_114_code, (11, 1, none, false, mc_274)) := rfl
set_option maxRecDepth 100000 in
theorem sz_277 : pi_mt[277]? = some (mn_277, prog_13_method_117_code, (11, 1, (some .boolean), false, mc_277)) := rfl
theorem hj272_0 : pi_fetch mc_272 0 = some (.aload_n 0, 1) := rfl
theorem hj272_1 : pi_fetch mc_272 1 = some (.getfield 40, 3) := rfl
theorem hj272_4 : pi_fetch mc_272 4 = some (.iconst 3, 1) := rfl
theorem hj272_5 : pi_fetch mc_272 5 = some (.aload_n 0, 1) := rfl
theorem hj272_6 : pi_fetch mc_272 6 = some (.getfield 424, 3) := rfl
theorem hj272_9 : pi_fetch mc_272 9 = some (.imul, 1) := rfl
theorem hj272_10 : pi_fetch mc_272 10 = some (.iload_n 1, 1) := rfl
theorem hj272_11 : pi_fetch mc_272 11 = some (.iastore, 1) := rfl
theorem hj272_12 : pi_fetch mc_272 12 = some (.aload_n 0, 1) := rfl
theorem hj272_13 : pi_fetch mc_272 13 = some (.getfield 40, 3) := rfl
theorem hj272_16 : pi_fetch mc_272 16 = some (.iconst 3, 1) := rfl
theorem hj272_17 : pi_fetch mc_272 17 = some (.aload_n 0, 1) := rfl
theorem hj272_18 : pi_fetch mc_272 18 = some (.getfield 424, 3) := rfl
theorem hj272_21 : pi_fetch mc_272 21 = some (.imul, 1) := rfl
theorem hj272_22 : pi_fetch mc_272 22 = some (.iconst 1, 1) := rfl
theorem hj272_23 : pi_fetch mc_272 23 = some (.iadd, 1) := rfl
theorem hj272_24 : pi_fetch mc_272 24 = some (.iload_n 2, 1) := rfl
theorem hj272_25 : pi_fetch mc_272 25 = some (.iastore, 1) := rfl
theorem hj272_26 : pi_fetch mc_272 26 = some (.aload_n 0, 1) := rfl
theorem hj272_27 : pi_fetch mc_272 27 = some (.getfield 40, 3) := rfl
theorem hj272_30 : pi_fetch mc_272 30 = some (.iconst 3, 1) := rfl
theorem hj272_31 : pi_fetch mc_272 31 = some (.aload_n 0, 1) := rfl
theorem hj272_32 : pi_fetch mc_272 32 = some (.getfield 424, 3) := rfl
theorem hj272_35 : pi_fetch mc_272 35 = some (.imul, 1) := rfl
theorem hj272_36 : pi_fetch mc_272 36 = some (.iconst 2, 1) := rfl
theorem hj272_37 : pi_fetch mc_272 37 = some (.iadd, 1) := rfl
theorem hj272_38 : pi_fetch mc_272 38 = some (.iload_n 3, 1) := rfl
theorem hj272_39 : pi_fetch mc_272 39 = some (.iastore, 1) := rfl
theorem hj272_40 : pi_fetch mc_272 40 = some (.aload_n 0, 1) := rfl
theorem hj272_41 : pi_fetch mc_272 41 = some (.dup, 1) := rfl
theorem hj272_42 : pi_fetch mc_272 42 = some (.getfield 424, 3) := rfl
theorem hj272_45 : pi_fetch mc_272 45 = some (.iconst 1, 1) := rfl
theorem hj272_46 : pi_fetch mc_272 46 = some (.iadd, 1) := rfl
theorem hj272_47 : pi_fetch mc_272 47 = some (.putfield 424, 3) := rfl
theorem hj272_50 : pi_fetch mc_272 50 = some (.return_, 1) := rfl
theorem hj273_0 : pi_fetch mc_273 0 = some (.aload_n 0, 1) := rfl
theorem hj273_1 : pi_fetch mc_273 1 = some (.getfield 427, 3) := rfl
theorem hj273_4 : pi_fetch mc_273 4 = some (.ifCond .le 69, 3) := rfl
theorem hj273_7 : pi_fetch mc_273 7 = some (.aload_n 0, 1) := rfl
theorem hj273_8 : pi_fetch mc_273 8 = some (.getfield 68, 3) := rfl
theorem hj273_11 : pi_fetch mc_273 11 = some (.aload_n 0, 1) := rfl
theorem hj273_12 : pi_fetch mc_273 12 = some (.getfield 427, 3) := rfl
theorem hj273_15 : pi_fetch mc_273 15 = some (.iconst 1, 1) := rfl
theorem hj273_16 : pi_fetch mc_273 16 = some (.isub, 1) := rfl
theorem hj273_17 : pi_fetch mc_273 17 = some (.iaload, 1) := rfl
theorem hj273_18 : pi_fetch mc_273 18 = some (.bipush 21, 2) := rfl
theorem hj273_20 : pi_fetch mc_273 20 = some (.if_icmp .eq 25, 3) := rfl
theorem hj273_23 : pi_fetch mc_273 23 = some (.aload_n 0, 1) := rfl
theorem hj273_24 : pi_fetch mc_273 24 = some (.getfield 68, 3) := rfl
theorem hj273_27 : pi_fetch mc_273 27 = some (.aload_n 0, 1) := rfl
theorem hj273_28 : pi_fetch mc_273 28 = some (.getfield 427, 3) := rfl
theorem hj273_31 : pi_fetch mc_273 31 = some (.iconst 1, 1) := rfl
theorem hj273_32 : pi_fetch mc_273 32 = some (.isub, 1) := rfl
theorem hj273_33 : pi_fetch mc_273 33 = some (.iaload, 1) := rfl
theorem hj273_34 : pi_fetch mc_273 34 = some (.bipush 22, 2) := rfl
theorem hj273_36 : pi_fetch mc_273 36 = some (.if_icmp .ne 37, 3) := rfl
theorem hj273_39 : pi_fetch mc_273 39 = some (.iload_n 1, 1) := rfl
theorem hj273_40 : pi_fetch mc_273 40 = some (.bipush 22, 2) := rfl
theorem hj273_42 : pi_fetch mc_273 42 = some (.if_icmp .ne 31, 3) := rfl
theorem hj273_45 : pi_fetch mc_273 45 = some (.aload_n 0, 1) := rfl
theorem hj273_46 : pi_fetch mc_273 46 = some (.dup, 1) := rfl
theorem hj273_47 : pi_fetch mc_273 47 = some (.getfield 427, 3) := rfl
theorem hj273_50 : pi_fetch mc_273 50 = some (.iconst 1, 1) := rfl
theorem hj273_51 : pi_fetch mc_273 51 = some (.isub, 1) := rfl
theorem hj273_52 : pi_fetch mc_273 52 = some (.putfield 427, 3) := rfl
theorem hj273_55 : pi_fetch mc_273 55 = some (.aload_n 0, 1) := rfl
theorem hj273_56 : pi_fetch mc_273 56 = some (.aload_n 0, 1) := rfl
theorem hj273_57 : pi_fetch mc_273 57 = some (.getfield 68, 3) := rfl
theorem hj273_60 : pi_fetch mc_273 60 = some (.aload_n 0, 1) := rfl
theorem hj273_61 : pi_fetch mc_273 61 = some (.getfield 427, 3) := rfl
theorem hj273_64 : pi_fetch mc_273 64 = some (.iaload, 1) := rfl
theorem hj273_65 : pi_fetch mc_273 65 = some (.iconst 0, 1) := rfl
theorem hj273_66 : pi_fetch mc_273 66 = some (.iconst 0, 1) := rfl
theorem hj273_67 : pi_fetch mc_273 67 = some (.invokevirtual 430, 3) := rfl
theorem hj273_70 : pi_fetch mc_273 70 = some (.goto (-70), 3) := rfl
theorem hj273_73 : pi_fetch mc_273 73 = some (.return_, 1) := rfl
theorem hj274_0 : pi_fetch mc_274 0 = some (.aload_n 0, 1) := rfl
theorem hj274_1 : pi_fetch mc_274 1 = some (.getfield 427, 3) := rfl
theorem hj274_4 : pi_fetch mc_274 4 = some (.ifCond .le 50, 3) := rfl
theorem hj274_7 : pi_fetch mc_274 7 = some (.aload_n 0, 1) := rfl
theorem hj274_8 : pi_fetch mc_274 8 = some (.getfield 68, 3) := rfl
theorem hj274_11 : pi_fetch mc_274 11 = some (.aload_n 0, 1) := rfl
theorem hj274_12 : pi_fetch mc_274 12 = some (.getfield 427, 3) := rfl
theorem hj274_15 : pi_fetch mc_274 15 = some (.iconst 1, 1) := rfl
theorem hj274_16 : pi_fetch mc_274 16 = some (.isub, 1) := rfl
theorem hj274_17 : pi_fetch mc_274 17 = some (.iaload, 1) := rfl
theorem hj274_18 : pi_fetch mc_274 18 = some (.bipush 20, 2) := rfl
theorem hj274_20 : pi_fetch mc_274 20 = some (.if_icmp .ne 34, 3) := rfl
theorem hj274_23 : pi_fetch mc_274 23 = some (.aload_n 0, 1) := rfl
theorem hj274_24 : pi_fetch mc_274 24 = some (.dup, 1) := rfl
theorem hj274_25 : pi_fetch mc_274 25 = some (.getfield 427, 3) := rfl
theorem hj274_28 : pi_fetch mc_274 28 = some (.iconst 1, 1) := rfl
theorem hj274_29 : pi_fetch mc_274 29 = some (.isub, 1) := rfl
theorem hj274_30 : pi_fetch mc_274 30 = some (.putfield 427, 3) := rfl
theorem hj274_33 : pi_fetch mc_274 33 = some (.aload_n 0, 1) := rfl
theorem hj274_34 : pi_fetch mc_274 34 = some (.dup, 1) := rfl
theorem hj274_35 : pi_fetch mc_274 35 = some (.getfield 433, 3) := rfl
theorem hj274_38 : pi_fetch mc_274 38 = some (.iconst 1, 1) := rfl
theorem hj274_39 : pi_fetch mc_274 39 = some (.isub, 1) := rfl
theorem hj274_40 : pi_fetch mc_274 40 = some (.putfield 433, 3) := rfl
theorem hj274_43 : pi_fetch mc_274 43 = some (.aload_n 0, 1) := rfl
theorem hj274_44 : pi_fetch mc_274 44 = some (.bipush 20, 2) := rfl
theorem hj274_46 : pi_fetch mc_274 46 = some (.iconst 0, 1) := rfl
theorem hj274_47 : pi_fetch mc_274 47 = some (.iconst 0, 1) := rfl
theorem hj274_48 : pi_fetch mc_274 48 = some (.invokevirtual 430, 3) := rfl
theorem hj274_51 : pi_fetch mc_274 51 = some (.goto (-51), 3) := rfl
theorem hj274_54 : pi_fetch mc_274 54 = some (.return_, 1) := rfl
theorem hj277_0 : pi_fetch mc_277 0 = some (.aload_n 0, 1) := rfl
theorem hj277_1 : pi_fetch mc_277 1 = some (.invokevirtual 445, 3) := rfl
theorem hj277_4 : pi_fetch mc_277 4 = some (.aload_n 0, 1) := rfl
theorem hj277_5 : pi_fetch mc_277 5 = some (.ldc2_w 120, 3) := rfl
theorem hj277_8 : pi_fetch mc_277 8 = some (.invokevirtual 206, 3) := rfl
theorem hj277_11 : pi_fetch mc_277 11 = some (.ifCond .ne 13, 3) := rfl
theorem hj277_14 : pi_fetch mc_277 14 = some (.aload_n 0, 1) := rfl
theorem hj277_15 : pi_fetch mc_277 15 = some (.ldc2_w 118, 3) := rfl
theorem hj277_18 : pi_fetch mc_277 18 = some (.invokevirtual 206, 3) := rfl
theorem hj277_21 : pi_fetch mc_277 21 = some (.ifCond .eq 71, 3) := rfl
theorem hj277_24 : pi_fetch mc_277 24 = some (.aload_n 0, 1) := rfl
theorem hj277_25 : pi_fetch mc_277 25 = some (.aload_n 0, 1) := rfl
theorem hj277_26 : pi_fetch mc_277 26 = some (.ldc2_w 120, 3) := rfl
theorem hj277_29 : pi_fetch mc_277 29 = some (.invokevirtual 206, 3) := rfl
theorem hj277_32 : pi_fetch mc_277 32 = some (.ifCond .eq 8, 3) := rfl
theorem hj277_35 : pi_fetch mc_277 35 = some (.bipush 21, 2) := rfl
theorem hj277_37 : pi_fetch mc_277 37 = some (.goto 5, 3) := rfl
theorem hj277_40 : pi_fetch mc_277 40 = some (.bipush 22, 2) := rfl
theorem hj277_42 : pi_fetch mc_277 42 = some (.invokevirtual 448, 3) := rfl
theorem hj277_45 : pi_fetch mc_277 45 = some (.aload_n 0, 1) := rfl
theorem hj277_46 : pi_fetch mc_277 46 = some (.getfield 68, 3) := rfl
theorem hj277_49 : pi_fetch mc_277 49 = some (.aload_n 0, 1) := rfl
theorem hj277_50 : pi_fetch mc_277 50 = some (.getfield 427, 3) := rfl
theorem hj277_53 : pi_fetch mc_277 53 = some (.aload_n 0, 1) := rfl
theorem hj277_54 : pi_fetch mc_277 54 = some (.ldc2_w 120, 3) := rfl
theorem hj277_57 : pi_fetch mc_277 57 = some (.invokevirtual 206, 3) := rfl
theorem hj277_60 : pi_fetch mc_277 60 = some (.ifCond .eq 8, 3) := rfl
theorem hj277_63 : pi_fetch mc_277 63 = some (.bipush 21, 2) := rfl
theorem hj277_65 : pi_fetch mc_277 65 = some (.goto 5, 3) := rfl
theorem hj277_68 : pi_fetch mc_277 68 = some (.bipush 22, 2) := rfl
theorem hj277_70 : pi_fetch mc_277 70 = some (.iastore, 1) := rfl
theorem hj277_71 : pi_fetch mc_277 71 = some (.aload_n 0, 1) := rfl
theorem hj277_72 : pi_fetch mc_277 72 = some (.dup, 1) := rfl
theorem hj277_73 : pi_fetch mc_277 73 = some (.getfield 427, 3) := rfl
theorem hj277_76 : pi_fetch mc_277 76 = some (.iconst 1, 1) := rfl
theorem hj277_77 : pi_fetch mc_277 77 = some (.iadd, 1) := rfl
theorem hj277_78 : pi_fetch mc_277 78 = some (.putfield 427, 3) := rfl
theorem hj277_81 : pi_fetch mc_277 81 = some (.aload_n 0, 1) := rfl
theorem hj277_82 : pi_fetch mc_277 82 = some (.iconst 0, 1) := rfl
theorem hj277_83 : pi_fetch mc_277 83 = some (.putfield 442, 3) := rfl
theorem hj277_86 : pi_fetch mc_277 86 = some (.aload_n 0, 1) := rfl
theorem hj277_87 : pi_fetch mc_277 87 = some (.invokevirtual 181, 3) := rfl
theorem hj277_90 : pi_fetch mc_277 90 = some (.iconst 1, 1) := rfl
theorem hj277_91 : pi_fetch mc_277 91 = some (.ireturn, 1) := rfl
theorem hj277_92 : pi_fetch mc_277 92 = some (.aload_n 0, 1) := rfl
theorem hj277_93 : pi_fetch mc_277 93 = some (.bipush 22, 2) := rfl
theorem hj277_95 : pi_fetch mc_277 95 = some (.invokevirtual 448, 3) := rfl
theorem hj277_98 : pi_fetch mc_277 98 = some (.aload_n 0, 1) := rfl
theorem hj277_99 : pi_fetch mc_277 99 = some (.bipush 41, 2) := rfl
theorem hj277_101 : pi_fetch mc_277 101 = some (.invokevirtual 175, 3) := rfl
theorem hj277_104 : pi_fetch mc_277 104 = some (.ifCond .eq 10, 3) := rfl
theorem hj277_107 : pi_fetch mc_277 107 = some (.aload_n 0, 1) := rfl
theorem hj277_108 : pi_fetch mc_277 108 = some (.getfield 427, 3) := rfl
theorem hj277_111 : pi_fetch mc_277 111 = some (.ifCond .ne 9, 3) := rfl
theorem hj277_114 : pi_fetch mc_277 114 = some (.aload_n 0, 1) := rfl
theorem hj277_115 : pi_fetch mc_277 115 = some (.iconst 1, 1) := rfl
theorem hj277_116 : pi_fetch mc_277 116 = some (.invokevirtual 178, 3) := rfl
theorem hj277_119 : pi_fetch mc_277 119 = some (.ireturn, 1) := rfl
theorem hj277_120 : pi_fetch mc_277 120 = some (.aload_n 0, 1) := rfl
theorem hj277_121 : pi_fetch mc_277 121 = some (.dup, 1) := rfl
theorem hj277_122 : pi_fetch mc_277 122 = some (.getfield 427, 3) := rfl
theorem hj277_125 : pi_fetch mc_277 125 = some (.iconst 1, 1) := rfl
theorem hj277_126 : pi_fetch mc_277 126 = some (.isub, 1) := rfl
theorem hj277_127 : pi_fetch mc_277 127 = some (.putfield 427, 3) := rfl
theorem hj277_130 : pi_fetch mc_277 130 = some (.aload_n 0, 1) := rfl
theorem hj277_131 : pi_fetch mc_277 131 = some (.dup, 1) := rfl
theorem hj277_132 : pi_fetch mc_277 132 = some (.getfield 433, 3) := rfl
theorem hj277_135 : pi_fetch mc_277 135 = some (.iconst 1, 1) := rfl
theorem hj277_136 : pi_fetch mc_277 136 = some (.isub, 1) := rfl
theorem hj277_137 : pi_fetch mc_277 137 = some (.putfield 433, 3) := rfl
theorem hj277_140 : pi_fetch mc_277 140 = some (.aload_n 0, 1) := rfl
theorem hj277_141 : pi_fetch mc_277 141 = some (.invokevirtual 181, 3) := rfl
theorem hj277_144 : pi_fetch mc_277 144 = some (.iconst 1, 1) := rfl
theorem hj277_145 : pi_fetch mc_277 145 = some (.ireturn, 1) := rfl
theorem sb_65 : ∀ k, k < 135 → af_seg sf_65 k = some (-2147483648, 2147483647) := by decide +kernel
theorem sb_74 : ∀ k, k < 45 → af_seg sf_74 k = some (-2147483648, 2147483647) := by decide +kernel
theorem hn_3 {c : Nat} : Int32.ofInt 3 * Int32.ofNat c = Int32.ofNat (3 * c) := by
  rw [show Int32.ofInt 3 = Int32.ofNat 3 by decide, ← Int32.ofNat_mul]
theorem sm_code {d c : Nat} {w : pi_W} {x y z : Int32} (hC : af_Conf aw_Sh w) (hc : (gv w 61 36).toInt = (c : Int)) (hc4 : c ≤ 44) : hq_F d sm272 (fun r w' => r = none ∧ af_Conf aw_Sh w' ∧ af_Fr [(61, 36, 37), (65, 0, 135)] w w' ∧ (gv w' 61 36).toInt = ((c + 1 : Nat) : Int)) (0, lv_args 0 [.ref 61, .int x, .int y, .int z], [], w) := by
  have g0 : pi_get (lv_args 0 [.ref 61, .int x, .int y, .int z]) 0 = some (.ref 61) := rfl
  have g1 : pi_get (lv_args 0 [.ref 61, .int x, .int y, .int z]) 1 = some (.int x) := rfl
  have g2 : pi_get (lv_args 0 [.ref 61, .int x, .int y, .int z]) 2 = some (.int y) := rfl
  have g3 : pi_get (lv_args 0 [.ref 61, .int x, .int y, .int z]) 3 = some (.int z) := rfl
  have kc0 : ((Int32.ofInt 1)).toInt = 1 := by decide
  have kc1 : ((Int32.ofInt 2)).toInt = 2 := by decide
  have kc2 : ((Int32.ofInt 3)).toInt = 3 := by decide
  have kz := sy_z0
  refine hq_F.st (s' := (1, _, _, _)) hj272_0 rfl rfl rfl (hs_al g0) ?_
  refine hq_F.st (s' := (4, _, _, _)) hj272_1 rfl rfl rfl (hq_gf hC sh_61 sk_11_40 (hq_ref hC sh_61 (b := 65) rfl)) ?_
  refine hq_F.st (s' := (5, _, _, _)) hj272_4 rfl rfl rfl rfl ?_
  refine hq_F.st (s' := (6, _, _, _)) hj272_5 rfl rfl rfl (hs_al g0) ?_
  refine hq_F.st (s' := (9, _, _, _)) hj272_6 rfl rfl rfl (hq_gf hC sh_61 sk_11_424 (sy_v hC (by decide) rfl)) ?_
  rw [show gv w 61 36 = Int32.ofNat c from by exact hn_e hc (by omega)]
  refine hq_F.st (s' := (10, _, _, _)) hj272_9 rfl rfl rfl rfl ?_
  refine hq_F.st (s' := (11, _, _, _)) hj272_10 rfl rfl rfl (hs_iln g1) ?_
  refine sy_isv hj272_11 hC sh_65 (n := 3 * c) (by rw [hn_3]; exact hn_t (by omega)) (by omega) (sy_full (sb_65 _ (by omega))) (fun w1 hC1 hw1 => ?_)
  refine hq_F.st (s' := (13, _, _, _)) hj272_12 rfl rfl rfl (hs_al g0) ?_
  refine hq_F.st (s' := (16, _, _, _)) hj272_13 rfl rfl rfl (hq_gf hC1 sh_61 sk_11_40 (hq_ref hC1 sh_61 (b := 65) rfl)) ?_
  refine hq_F.st (s' := (17, _, _, _)) hj272_16 rfl rfl rfl rfl ?_
  refine hq_F.st (s' := (18, _, _, _)) hj272_17 rfl rfl rfl (hs_al g0) ?_
  refine hq_F.st (s' := (21, _, _, _)) hj272_18 rfl rfl rfl (hq_gf hC1 sh_61 sk_11_424 (sy_v hC1 (by decide) rfl)) ?_
  rw [show gv w1 61 36 = Int32.ofNat c from by rw [wpv hw1, if_neg (by omega)]; exact hn_e hc (by omega)]
  refine hq_F.st (s' := (22, _, _, _)) hj272_21 rfl rfl rfl rfl ?_
  refine hq_F.st (s' := (23, _, _, _)) hj272_22 rfl rfl rfl rfl ?_
  refine hq_F.st (s' := (24, _, _, _)) hj272_23 rfl rfl rfl rfl ?_
  refine hq_F.st (s' := (25, _, _, _)) hj272_24 rfl rfl rfl (hs_iln g2) ?_
  refine sy_isv hj272_25 hC1 sh_65 (n := 3 * c + 1) (by rw [hn_3, hn_s]; exact hn_t (by omega)) (by omega) (sy_full (sb_65 _ (by omega))) (fun w2 hC2 hw2 => ?_)
  refine hq_F.st (s' := (27, _, _, _)) hj272_26 rfl rfl rfl (hs_al g0) ?_
  refine hq_F.st (s' := (30, _, _, _)) hj272_27 rfl rfl rfl (hq_gf hC2 sh_61 sk_11_40 (hq_ref hC2 sh_61 (b := 65) rfl)) ?_
  refine hq_F.st (s' := (31, _, _, _)) hj272_30 rfl rfl rfl rfl ?_
  refine hq_F.st (s' := (32, _, _, _)) hj272_31 rfl rfl rfl (hs_al g0) ?_
  refine hq_F.st (s' := (35, _, _, _)) hj272_32 rfl rfl rfl (hq_gf hC2 sh_61 sk_11_424 (sy_v hC2 (by decide) rfl)) ?_
  rw [show gv w2 61 36 = Int32.ofNat c from by rw [wpv hw2, if_neg (by omega)]; rw [wpv hw1, if_neg (by omega)]; exact hn_e hc (by omega)]
  refine hq_F.st (s' := (36, _, _, _)) hj272_35 rfl rfl rfl rfl ?_
  refine hq_F.st (s' := (37, _, _, _)) hj272_36 rfl rfl rfl rfl ?_
  refine hq_F.st (s' := (38, _, _, _)) hj272_37 rfl rfl rfl rfl ?_
  refine hq_F.st (s' := (39, _, _, _)) hj272_38 rfl rfl rfl (hs_iln g3) ?_
  refine sy_isv hj272_39 hC2 sh_65 (n := 3 * c + 2) (by rw [hn_3, show Int32.ofInt 2 = Int32.ofNat 2 by decide, hn_a]; exact hn_t (by omega)) (by omega) (sy_full (sb_65 _ (by omega))) (fun w3 hC3 hw3 => ?_)
  refine hq_F.st (s' := (41, _, _, _)) hj272_40 rfl rfl rfl (hs_al g0) ?_
  refine hq_F.st (s' := (42, _, _, _)) hj272_41 rfl rfl rfl rfl ?_
  refine hq_F.st (s' := (45, _, _, _)) hj272_42 rfl rfl rfl (hq_gf hC3 sh_61 sk_11_424 (sy_v hC3 (by decide) rfl)) ?_
  rw [show gv w3 61 36 = Int32.ofNat c from by rw [wpv hw3, if_neg (by omega)]; rw [wpv hw2, if_neg (by omega)]; rw [wpv hw1, if_neg (by omega)]; exact hn_e hc (by omega)]
  refine hq_F.st (s' := (46, _, _, _)) hj272_45 rfl rfl rfl rfl ?_
  refine hq_F.st (s' := (47, _, _, _)) hj272_46 rfl rfl rfl rfl ?_
  rw [hn_s]
  have tc1 : (Int32.ofNat (c + 1)).toInt = ((c + 1 : Nat) : Int) := hn_t (by omega)
  refine sy_pf hj272_47 hC3 sh_61 sk_11_424 (lo := 0) (hi := 45) rfl (by omega) rfl rfl rfl (fun w4 hC4 hw4 => ?_)
  refine hq_F.en hj272_50 rfl rfl ?_
  refine ⟨rfl, hC4, ((hq_fr1 (lo := 0) (hi := 135) hw1 (by omega)).cov (by decide)).tr (((hq_fr1 (lo := 0) (hi := 135) hw2 (by omega)).cov (by decide)).tr (((hq_fr1 (lo := 0) (hi := 135) hw3 (by omega)).cov (by decide)).tr ((wpF hw4).cov (by decide)))), by rw [wpv hw4, if_pos ⟨rfl, rfl⟩]; exact tc1⟩
theorem sm_nots {d : Nat} : ∀ (S : List Nat) {c : Nat} {w : pi_W} {lv : pi_L}, af_Conf aw_Sh w → (gv w 61 36).toInt = (c : Int) → (gv w 61 38).toInt = (S.length : Int) → sK w S → (gv w 61 39).toInt = (((sF S).length + 1 : Nat) : Int) → c + S.length ≤ 44 → (∀ x ∈ S, x < 30) → pi_get lv 0 = some (.ref 61) → hq_F (d + 1) sm274 (fun r w' => r = none ∧ af_Conf aw_Sh w' ∧ af_Fr [(61, 36, 37), (61, 38, 40), (65, 0, 135)] w w' ∧ ∃ c', (gv w' 61 36).toInt = ((c' : Nat) : Int) ∧ (gv w' 61 38).toInt = ((sD S).length : Int) ∧ sK w' (sD S) ∧ (gv w' 61 39).toInt = (((sF (sD S)).length + 1 : Nat) : Int) ∧ c' + (sD S).length = c + S.length) (0, lv, [], w) := by
  intro S
  induction S with
  | nil =>
    intro c w lv hC hc ht hS hdp hcs hx20 g0
    simp only [List.length_nil] at ht
    have kz := sy_z0
    refine hq_F.st (s' := (1, _, _, _)) hj274_0 rfl rfl rfl (hs_al g0) ?_
    refine hq_F.st (s' := (4, _, _, _)) hj274_1 rfl rfl rfl (hq_gf hC sh_61 sk_11_427 (sy_v hC (by decide) rfl)) ?_
    refine hq_F.st (s' := (54, _, _, _)) hj274_4 rfl rfl rfl (hs_if (ci_le (by omega)) rfl) ?_
    refine hq_F.en hj274_54 rfl rfl ?_
    exact ⟨rfl, hC, af_Fr.rf _ _, c, hc, ht, hS, hdp, rfl⟩
  | cons x S ih =>
    intro c w lv hC hc ht hS hdp hcs hx20 g0
    have ht : (gv w 61 38).toInt = ((S.length + 1 : Nat) : Int) := ht
    simp only [List.length_cons] at hcs
    have hx30 := hx20 x List.mem_cons_self
    have hx20 : True ∧ ∀ y ∈ S, y < 30 := ⟨trivial, fun y hy => hx20 y (List.mem_cons_of_mem _ hy)⟩
    have kc0 : (((Int8.ofInt 20).toInt32)).toInt = 20 := by decide
    have kc1 : ((0 : Int32)).toInt = 0 := by decide
    have kc2 : ((1 : Int32)).toInt = 1 := by decide
    have kc3 : ((Int32.ofInt 0)).toInt = 0 := by decide
    have kc4 : ((Int32.ofInt 1)).toInt = 1 := by decide
    have kz := sy_z0
    refine hq_F.st (s' := (1, _, _, _)) hj274_0 rfl rfl rfl (hs_al g0) ?_
    refine hq_F.st (s' := (4, _, _, _)) hj274_1 rfl rfl rfl (hq_gf hC sh_61 sk_11_427 (sy_v hC (by decide) rfl)) ?_
    refine hq_F.st (s' := (7, _, _, _)) hj274_4 rfl rfl rfl (hs_ifn (t := 54) (ci_len (by omega)) rfl) ?_
    refine hq_F.st (s' := (8, _, _, _)) hj274_7 rfl rfl rfl (hs_al g0) ?_
    refine hq_F.st (s' := (11, _, _, _)) hj274_8 rfl rfl rfl (hq_gf hC sh_61 sk_11_68 (hq_ref hC sh_61 (b := 74) rfl)) ?_
    refine hq_F.st (s' := (12, _, _, _)) hj274_11 rfl rfl rfl (hs_al g0) ?_
    refine hq_F.st (s' := (15, _, _, _)) hj274_12 rfl rfl rfl (hq_gf hC sh_61 sk_11_427 (sy_v hC (by decide) rfl)) ?_
    rw [show gv w 61 38 = Int32.ofNat (S.length + 1) from hn_e ht (by omega)]
    refine hq_F.st (s' := (16, _, _, _)) hj274_15 rfl rfl rfl rfl ?_
    refine hq_F.st (s' := (17, _, _, _)) hj274_16 rfl rfl rfl rfl ?_
    rw [hn_p]
    refine hq_F.st (s' := (18, _, _, _)) hj274_17 rfl rfl rfl (sy_iav hC sh_74 (n := S.length) (hn_t (by omega)) (by omega)) ?_
    rw [show gv w 74 S.length = Int32.ofNat x from hS.1]
    refine hq_F.st (s' := (20, _, _, _)) hj274_18 rfl rfl rfl rfl ?_
    have tx : (Int32.ofNat x).toInt = (x : Int) := hn_t (by omega)
    by_cases b20 : ¬ ((Int32.ofNat x)).toInt = 20
    · skip
      refine hq_F.st (s' := (54, _, _, _)) hj274_20 rfl rfl rfl (hs_ic (ci_ne (by omega)) rfl) ?_
      refine hq_F.en hj274_54 rfl rfl ?_
      exact ⟨rfl, hC, af_Fr.rf _ _, c, hc, by rw [show sD (x :: S) = x :: S from if_neg (by omega)]; exact ht, by rw [show sD (x :: S) = x :: S from if_neg (by omega)]; exact ⟨hS.1, hS.2⟩, by rw [show sD (x :: S) = x :: S from if_neg (by omega)]; exact hdp, by rw [show sD (x :: S) = x :: S from if_neg (by omega)]⟩
    · skip
      refine hq_F.st (s' := (23, _, _, _)) hj274_20 rfl rfl rfl (hs_icn (t := 54) (ci_nen (by omega)) rfl) ?_
      refine hq_F.st (s' := (24, _, _, _)) hj274_23 rfl rfl rfl (hs_al g0) ?_
      refine hq_F.st (s' := (25, _, _, _)) hj274_24 rfl rfl rfl rfl ?_
      refine hq_F.st (s' := (28, _, _, _)) hj274_25 rfl rfl rfl (hq_gf hC sh_61 sk_11_427 (sy_v hC (by decide) rfl)) ?_
      rw [show gv w 61 38 = Int32.ofNat (S.length + 1) from hn_e ht (by omega)]
      refine hq_F.st (s' := (29, _, _, _)) hj274_28 rfl rfl rfl rfl ?_
      refine hq_F.st (s' := (30, _, _, _)) hj274_29 rfl rfl rfl rfl ?_
      rw [hn_p]
      have tl : (Int32.ofNat S.length).toInt = (S.length : Int) := hn_t (by omega)
      refine sy_pf hj274_30 hC sh_61 sk_11_427 (lo := 0) (hi := 45) rfl (by omega) rfl rfl rfl (fun w21 hC21 hw21 => ?_)
      refine hq_F.st (s' := (34, _, _, _)) hj274_33 rfl rfl rfl (hs_al g0) ?_
      refine hq_F.st (s' := (35, _, _, _)) hj274_34 rfl rfl rfl rfl ?_
      refine hq_F.st (s' := (38, _, _, _)) hj274_35 rfl rfl rfl (hq_gf hC21 sh_61 sk_11_433 (sy_v hC21 (by decide) rfl)) ?_
      have q35 : (gv w21 61 39).toInt = (gv w 61 39).toInt := by rw [wpv hw21, if_neg (by decide)]
      rw [show gv w21 61 39 = Int32.ofNat ((sF S).length + 1 + 1) from by rw [wpv hw21, if_neg (by decide)]; exact hn_e (by rw [hdp, show sF (x :: S) = false :: sF S from if_pos (by omega)]; rfl) (by have := sF_len S; omega)]
      refine hq_F.st (s' := (39, _, _, _)) hj274_38 rfl rfl rfl rfl ?_
      refine hq_F.st (s' := (40, _, _, _)) hj274_39 rfl rfl rfl rfl ?_
      rw [hn_p]
      have td : (Int32.ofNat ((sF S).length + 1)).toInt = (((sF S).length + 1 : Nat) : Int) := hn_t (by have := sF_len S; omega)
      refine sy_pf hj274_40 hC21 sh_61 sk_11_433 (lo := -2147483648) (hi := 2147483647) rfl (af_i32 _) rfl rfl rfl (fun w22 hC22 hw22 => ?_)
      refine hq_F.st (s' := (44, _, _, _)) hj274_43 rfl rfl rfl (hs_al g0) ?_
      refine hq_F.st (s' := (46, _, _, _)) hj274_44 rfl rfl rfl rfl ?_
      refine hq_F.st (s' := (47, _, _, _)) hj274_46 rfl rfl rfl rfl ?_
      refine hq_F.st (s' := (48, _, _, _)) hj274_47 rfl rfl rfl rfl ?_
      refine hq_F.call hj274_48 rfl rfl si_11_430 (by decide) (by decide) sz_272 (sy_argsV hC22 sh_61 rfl rfl rfl (Nat.le_of_ble_eq_true rfl) rfl (Nat.le_of_ble_eq_true rfl) rfl (by decide)) (sm_code (d := d) (c := c) hC22 (by rw [wpv hw22, if_neg (by decide), wpv hw21, if_neg (by decide)]; exact hc) (by omega)) (fun _ _ q => by rw [q.2.1.1, hC22.1]) ?_
      rintro r48 w3 ⟨rfl, hC3, F3, c3⟩
      try dsimp only
      refine hq_F.st (s' := (0, _, _, _)) hj274_51 rfl rfl rfl rfl ?_
      have ex : x = 20 := by omega
      have es : sD (x :: S) = sD S := if_pos ex
      have ef : sF (x :: S) = false :: sF S := if_pos ex
      rw [es]
      rw [ef] at hdp
      have F0 : af_Fr [(61, 36, 37), (61, 38, 40), (65, 0, 135)] w w3 := ((wpF hw21).cov (by decide)).tr (((wpF hw22).cov (by decide)).tr (F3.cov (by decide)))
      refine (ih (c := c + 1) (w := w3) hC3 c3 (by rw [gv_eq (F3 61 38 (by decide)), wpv hw22, if_neg (by decide), wpv hw21, if_pos ⟨rfl, rfl⟩]; exact tl) (hS.2.fr F0 (by decide)) (by rw [gv_eq (F3 61 39 (by decide)), wpv hw22, if_pos ⟨rfl, rfl⟩]; exact td) (by first | omega | (simp only [List.length_cons] at hcs; omega)) hx20.2 g0).imp ?_
      rintro r w' ⟨q1, q2, q3, c', q4, q5, q6, q7, q8⟩
      exact ⟨q1, q2, F0.tr q3, c', q4, q5, q6, q7, by simp only [List.length_cons]; omega⟩
def sJ2 (till : Nat) : List Nat → List Nat
  | [] => []
  | x :: S => if x = 21 ∨ (x = 22 ∧ till = 22) then sJ2 till S else x :: S
theorem sJ2_F {till : Nat} : ∀ (S : List Nat), sF (sJ2 till S) = sF S
  | [] => rfl
  | x :: S => by
    rw [sJ2]
    split
    · rename_i q
      rw [sF, if_neg (by omega), if_neg (by omega)]
      exact sJ2_F S
    · rfl
theorem sJ2_W {till : Nat} : ∀ {S : List Nat}, sW S → sH S → sW (sJ2 till S) ∧ sH (sJ2 till S)
  | [], _, h => ⟨trivial, h⟩
  | x :: S, h, hh => by
    rw [sJ2]
    split
    · rename_i q
      exact sJ2_W h.2.2 (h.2.1 (by omega))
    · exact ⟨h, hh⟩
theorem sJ2_22 : ∀ {S : List Nat}, sW S → sH S → sJ2 22 S = [] ∨ ∃ T, sJ2 22 S = 23 :: T
  | [], _, _ => Or.inl rfl
  | x :: S, h, hh => by
    rw [sJ2]
    split
    · rename_i q
      exact sJ2_22 h.2.2 (h.2.1 (by omega))
    · rename_i q
      have h1 := h.1
      have h2 := hh x S rfl
      exact Or.inr ⟨S, by rw [show x = 23 by omega]⟩
theorem sm_joins {d till : Nat} {y : Int32} (hy : y.toInt = (till : Int)) : ∀ (S : List Nat) {c : Nat} {w : pi_W} {lv : pi_L}, af_Conf aw_Sh w → (gv w 61 36).toInt = (c : Int) → (gv w 61 38).toInt = (S.length : Int) → sK w S → c + S.length ≤ 44 → (∀ x ∈ S, x < 30) → pi_get lv 0 = some (.ref 61) → pi_get lv 1 = some (.int y) → hq_F (d + 1) sm273 (fun r w' => r = none ∧ af_Conf aw_Sh w' ∧ af_Fr [(61, 36, 37), (61, 38, 39), (65, 0, 135)] w w' ∧ ∃ c', (gv w' 61 36).toInt = ((c' : Nat) : Int) ∧ (gv w' 61 38).toInt = ((sJ2 till S).length : Int) ∧ sK w' (sJ2 till S) ∧ c' + (sJ2 till S).length = c + S.length) (0, lv, [], w) := by
  intro S
  induction S with
  | nil =>
    intro c w lv hC hc ht hS hcs hx20 g0 g1
    simp only [List.length_nil] at ht
    have kz := sy_z0
    refine hq_F.st (s' := (1, _, _, _)) hj273_0 rfl rfl rfl (hs_al g0) ?_
    refine hq_F.st (s' := (4, _, _, _)) hj273_1 rfl rfl rfl (hq_gf hC sh_61 sk_11_427 (sy_v hC (by decide) rfl)) ?_
    refine hq_F.st (s' := (73, _, _, _)) hj273_4 rfl rfl rfl (hs_if (ci_le (by omega)) rfl) ?_
    refine hq_F.en hj273_73 rfl rfl ?_
    exact ⟨rfl, hC, af_Fr.rf _ _, c, hc, ht, hS, rfl⟩
  | cons x S ih =>
    intro c w lv hC hc ht hS hcs hx20 g0 g1
    have ht : (gv w 61 38).toInt = ((S.length + 1 : Nat) : Int) := ht
    simp only [List.length_cons] at hcs
    have hx30 := hx20 x List.mem_cons_self
    have hx20 : True ∧ ∀ y ∈ S, y < 30 := ⟨trivial, fun y hy => hx20 y (List.mem_cons_of_mem _ hy)⟩
    have kc0 : (((Int8.ofInt 21).toInt32)).toInt = 21 := by decide
    have kc1 : (((Int8.ofInt 22).toInt32)).toInt = 22 := by decide
    have kc2 : ((0 : Int32)).toInt = 0 := by decide
    have kc3 : ((1 : Int32)).toInt = 1 := by decide
    have kc4 : ((Int32.ofInt 0)).toInt = 0 := by decide
    have kc5 : ((Int32.ofInt 1)).toInt = 1 := by decide
    have kz := sy_z0
    refine hq_F.st (s' := (1, _, _, _)) hj273_0 rfl rfl rfl (hs_al g0) ?_
    refine hq_F.st (s' := (4, _, _, _)) hj273_1 rfl rfl rfl (hq_gf hC sh_61 sk_11_427 (sy_v hC (by decide) rfl)) ?_
    refine hq_F.st (s' := (7, _, _, _)) hj273_4 rfl rfl rfl (hs_ifn (t := 73) (ci_len (by omega)) rfl) ?_
    refine hq_F.st (s' := (8, _, _, _)) hj273_7 rfl rfl rfl (hs_al g0) ?_
    refine hq_F.st (s' := (11, _, _, _)) hj273_8 rfl rfl rfl (hq_gf hC sh_61 sk_11_68 (hq_ref hC sh_61 (b := 74) rfl)) ?_
    refine hq_F.st (s' := (12, _, _, _)) hj273_11 rfl rfl rfl (hs_al g0) ?_
    refine hq_F.st (s' := (15, _, _, _)) hj273_12 rfl rfl rfl (hq_gf hC sh_61 sk_11_427 (sy_v hC (by decide) rfl)) ?_
    rw [show gv w 61 38 = Int32.ofNat (S.length + 1) from hn_e ht (by omega)]
    refine hq_F.st (s' := (16, _, _, _)) hj273_15 rfl rfl rfl rfl ?_
    refine hq_F.st (s' := (17, _, _, _)) hj273_16 rfl rfl rfl rfl ?_
    rw [hn_p]
    refine hq_F.st (s' := (18, _, _, _)) hj273_17 rfl rfl rfl (sy_iav hC sh_74 (n := S.length) (hn_t (by omega)) (by omega)) ?_
    rw [show gv w 74 S.length = Int32.ofNat x from hS.1]
    refine hq_F.st (s' := (20, _, _, _)) hj273_18 rfl rfl rfl rfl ?_
    have tx : (Int32.ofNat x).toInt = (x : Int) := hn_t (by omega)
    by_cases b20 : ((Int32.ofNat x)).toInt = 21
    · skip
      refine hq_F.st (s' := (45, _, _, _)) hj273_20 rfl rfl rfl (hs_ic (ci_eq (by omega)) rfl) ?_
      refine hq_F.st (s' := (46, _, _, _)) hj273_45 rfl rfl rfl (hs_al g0) ?_
      refine hq_F.st (s' := (47, _, _, _)) hj273_46 rfl rfl rfl rfl ?_
      refine hq_F.st (s' := (50, _, _, _)) hj273_47 rfl rfl rfl (hq_gf hC sh_61 sk_11_427 (sy_v hC (by decide) rfl)) ?_
      rw [show gv w 61 38 = Int32.ofNat (S.length + 1) from hn_e ht (by omega)]
      refine hq_F.st (s' := (51, _, _, _)) hj273_50 rfl rfl rfl rfl ?_
      refine hq_F.st (s' := (52, _, _, _)) hj273_51 rfl rfl rfl rfl ?_
      rw [hn_p]
      have tl : (Int32.ofNat S.length).toInt = (S.length : Int) := hn_t (by omega)
      refine sy_pf hj273_52 hC sh_61 sk_11_427 (lo := 0) (hi := 45) rfl (by omega) rfl rfl rfl (fun w21 hC21 hw21 => ?_)
      refine hq_F.st (s' := (56, _, _, _)) hj273_55 rfl rfl rfl (hs_al g0) ?_
      refine hq_F.st (s' := (57, _, _, _)) hj273_56 rfl rfl rfl (hs_al g0) ?_
      refine hq_F.st (s' := (60, _, _, _)) hj273_57 rfl rfl rfl (hq_gf hC21 sh_61 sk_11_68 (hq_ref hC21 sh_61 (b := 74) rfl)) ?_
      refine hq_F.st (s' := (61, _, _, _)) hj273_60 rfl rfl rfl (hs_al g0) ?_
      refine hq_F.st (s' := (64, _, _, _)) hj273_61 rfl rfl rfl (hq_gf hC21 sh_61 sk_11_427 (sy_v hC21 (by decide) rfl)) ?_
      have q61 : (gv w21 61 38).toInt = ((Int32.ofNat S.length)).toInt := by rw [wpv hw21, if_pos ⟨rfl, rfl⟩]
      rw [show gv w21 61 38 = Int32.ofNat S.length from by rw [wpv hw21, if_pos ⟨rfl, rfl⟩]]
      refine hq_F.st (s' := (65, _, _, _)) hj273_64 rfl rfl rfl (sy_iav hC21 sh_74 (n := S.length) (hn_t (by omega)) (by omega)) ?_
      rw [show gv w21 74 S.length = Int32.ofNat x from by rw [wpv hw21, if_neg (by omega)]; exact hS.1]
      refine hq_F.st (s' := (66, _, _, _)) hj273_65 rfl rfl rfl rfl ?_
      refine hq_F.st (s' := (67, _, _, _)) hj273_66 rfl rfl rfl rfl ?_
      refine hq_F.call hj273_67 rfl rfl si_11_430 (by decide) (by decide) sz_272 (sy_argsV hC21 sh_61 rfl rfl rfl (Nat.le_of_ble_eq_true rfl) rfl (Nat.le_of_ble_eq_true rfl) rfl (by decide)) (sm_code (d := d) (c := c) hC21 (by rw [wpv hw21, if_neg (by decide)]; exact hc) (by omega)) (fun _ _ q => by rw [q.2.1.1, hC21.1]) ?_
      rintro r67 w3 ⟨rfl, hC3, F3, c3⟩
      try dsimp only
      refine hq_F.st (s' := (0, _, _, _)) hj273_70 rfl rfl rfl rfl ?_
      have es : sJ2 till (x :: S) = sJ2 till S := if_pos (by omega)
      rw [es]
      have F0 : af_Fr [(61, 36, 37), (61, 38, 39), (65, 0, 135)] w w3 := ((wpF hw21).cov (by decide)).tr (F3.cov (by decide))
      refine (ih (c := c + 1) (w := w3) hC3 c3 (by rw [gv_eq (F3 61 38 (by decide)), wpv hw21, if_pos ⟨rfl, rfl⟩]; exact tl) (hS.2.fr F0 (by decide)) (by omega) hx20.2 g0 g1).imp ?_
      rintro r w' ⟨q1, q2, q3, c', q4, q5, q6, q8⟩
      exact ⟨q1, q2, F0.tr q3, c', q4, q5, q6, by simp only [List.length_cons]; omega⟩
    · skip
      refine hq_F.st (s' := (23, _, _, _)) hj273_20 rfl rfl rfl (hs_icn (t := 45) (ci_eqn (by omega)) rfl) ?_
      refine hq_F.st (s' := (24, _, _, _)) hj273_23 rfl rfl rfl (hs_al g0) ?_
      refine hq_F.st (s' := (27, _, _, _)) hj273_24 rfl rfl rfl (hq_gf hC sh_61 sk_11_68 (hq_ref hC sh_61 (b := 74) rfl)) ?_
      refine hq_F.st (s' := (28, _, _, _)) hj273_27 rfl rfl rfl (hs_al g0) ?_
      refine hq_F.st (s' := (31, _, _, _)) hj273_28 rfl rfl rfl (hq_gf hC sh_61 sk_11_427 (sy_v hC (by decide) rfl)) ?_
      rw [show gv w 61 38 = Int32.ofNat (S.length + 1) from hn_e ht (by omega)]
      refine hq_F.st (s' := (32, _, _, _)) hj273_31 rfl rfl rfl rfl ?_
      refine hq_F.st (s' := (33, _, _, _)) hj273_32 rfl rfl rfl rfl ?_
      rw [hn_p]
      refine hq_F.st (s' := (34, _, _, _)) hj273_33 rfl rfl rfl (sy_iav hC sh_74 (n := S.length) (hn_t (by omega)) (by omega)) ?_
      rw [show gv w 74 S.length = Int32.ofNat x from hS.1]
      refine hq_F.st (s' := (36, _, _, _)) hj273_34 rfl rfl rfl rfl ?_
      by_cases b36 : ¬ ((Int32.ofNat x)).toInt = 22
      · skip
        refine hq_F.st (s' := (73, _, _, _)) hj273_36 rfl rfl rfl (hs_ic (ci_ne (by omega)) rfl) ?_
        refine hq_F.en hj273_73 rfl rfl ?_
        exact ⟨rfl, hC, af_Fr.rf _ _, c, hc, by rw [show sJ2 till (x :: S) = x :: S from if_neg (by omega)]; exact ht, by rw [show sJ2 till (x :: S) = x :: S from if_neg (by omega)]; exact ⟨hS.1, hS.2⟩, by rw [show sJ2 till (x :: S) = x :: S from if_neg (by omega)]⟩
      · skip
        refine hq_F.st (s' := (39, _, _, _)) hj273_36 rfl rfl rfl (hs_icn (t := 73) (ci_nen (by omega)) rfl) ?_
        refine hq_F.st (s' := (40, _, _, _)) hj273_39 rfl rfl rfl (hs_iln g1) ?_
        refine hq_F.st (s' := (42, _, _, _)) hj273_40 rfl rfl rfl rfl ?_
        by_cases b42 : ¬ (y).toInt = 22
        · skip
          refine hq_F.st (s' := (73, _, _, _)) hj273_42 rfl rfl rfl (hs_ic (ci_ne (by omega)) rfl) ?_
          refine hq_F.en hj273_73 rfl rfl ?_
          exact ⟨rfl, hC, af_Fr.rf _ _, c, hc, by rw [show sJ2 till (x :: S) = x :: S from if_neg (by omega)]; exact ht, by rw [show sJ2 till (x :: S) = x :: S from if_neg (by omega)]; exact ⟨hS.1, hS.2⟩, by rw [show sJ2 till (x :: S) = x :: S from if_neg (by omega)]⟩
        · skip
          refine hq_F.st (s' := (45, _, _, _)) hj273_42 rfl rfl rfl (hs_icn (t := 73) (ci_nen (by omega)) rfl) ?_
          refine hq_F.st (s' := (46, _, _, _)) hj273_45 rfl rfl rfl (hs_al g0) ?_
          refine hq_F.st (s' := (47, _, _, _)) hj273_46 rfl rfl rfl rfl ?_
          refine hq_F.st (s' := (50, _, _, _)) hj273_47 rfl rfl rfl (hq_gf hC sh_61 sk_11_427 (sy_v hC (by decide) rfl)) ?_
          rw [show gv w 61 38 = Int32.ofNat (S.length + 1) from hn_e ht (by omega)]
          refine hq_F.st (s' := (51, _, _, _)) hj273_50 rfl rfl rfl rfl ?_
          refine hq_F.st (s' := (52, _, _, _)) hj273_51 rfl rfl rfl rfl ?_
          rw [hn_p]
          have tl : (Int32.ofNat S.length).toInt = (S.length : Int) := hn_t (by omega)
          refine sy_pf hj273_52 hC sh_61 sk_11_427 (lo := 0) (hi := 45) rfl (by omega) rfl rfl rfl (fun w21 hC21 hw21 => ?_)
          refine hq_F.st (s' := (56, _, _, _)) hj273_55 rfl rfl rfl (hs_al g0) ?_
          refine hq_F.st (s' := (57, _, _, _)) hj273_56 rfl rfl rfl (hs_al g0) ?_
          refine hq_F.st (s' := (60, _, _, _)) hj273_57 rfl rfl rfl (hq_gf hC21 sh_61 sk_11_68 (hq_ref hC21 sh_61 (b := 74) rfl)) ?_
          refine hq_F.st (s' := (61, _, _, _)) hj273_60 rfl rfl rfl (hs_al g0) ?_
          refine hq_F.st (s' := (64, _, _, _)) hj273_61 rfl rfl rfl (hq_gf hC21 sh_61 sk_11_427 (sy_v hC21 (by decide) rfl)) ?_
          have q61 : (gv w21 61 38).toInt = ((Int32.ofNat S.length)).toInt := by rw [wpv hw21, if_pos ⟨rfl, rfl⟩]
          rw [show gv w21 61 38 = Int32.ofNat S.length from by rw [wpv hw21, if_pos ⟨rfl, rfl⟩]]
          refine hq_F.st (s' := (65, _, _, _)) hj273_64 rfl rfl rfl (sy_iav hC21 sh_74 (n := S.length) (hn_t (by omega)) (by omega)) ?_
          rw [show gv w21 74 S.length = Int32.ofNat x from by rw [wpv hw21, if_neg (by omega)]; exact hS.1]
          refine hq_F.st (s' := (66, _, _, _)) hj273_65 rfl rfl rfl rfl ?_
          refine hq_F.st (s' := (67, _, _, _)) hj273_66 rfl rfl rfl rfl ?_
          refine hq_F.call hj273_67 rfl rfl si_11_430 (by decide) (by decide) sz_272 (sy_argsV hC21 sh_61 rfl rfl rfl (Nat.le_of_ble_eq_true rfl) rfl (Nat.le_of_ble_eq_true rfl) rfl (by decide)) (sm_code (d := d) (c := c) hC21 (by rw [wpv hw21, if_neg (by decide)]; exact hc) (by omega)) (fun _ _ q => by rw [q.2.1.1, hC21.1]) ?_
          rintro r67 w3 ⟨rfl, hC3, F3, c3⟩
          try dsimp only
          refine hq_F.st (s' := (0, _, _, _)) hj273_70 rfl rfl rfl rfl ?_
          have es : sJ2 till (x :: S) = sJ2 till S := if_pos (by omega)
          rw [es]
          have F0 : af_Fr [(61, 36, 37), (61, 38, 39), (65, 0, 135)] w w3 := ((wpF hw21).cov (by decide)).tr (F3.cov (by decide))
          refine (ih (c := c + 1) (w := w3) hC3 c3 (by rw [gv_eq (F3 61 38 (by decide)), wpv hw21, if_pos ⟨rfl, rfl⟩]; exact tl) (hS.2.fr F0 (by decide)) (by omega) hx20.2 g0 g1).imp ?_
          rintro r w' ⟨q1, q2, q3, c', q4, q5, q6, q8⟩
          exact ⟨q1, q2, F0.tr q3, c', q4, q5, q6, by simp only [List.length_cons]; omega⟩
