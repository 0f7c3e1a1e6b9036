/-! ===== more LINES in the class; by program ===== -/
def sm28 : pi_M := (3, 3, (some .boolean), false, mc_28)
def sm33 : pi_M := (3, 3, (some .boolean), false, mc_33)
def sm34 : pi_M := (3, 3, (some .boolean), false, mc_34)
set_option maxRecDepth 100000 in
theorem sz_28 : pi_mt[28]? = some (mn_28, prog_5_method_9_code, (3, 3, (some .boolean), false, mc_28)) := rfl
set_option maxRecDepth 100000 in
theorem sz_33 : pi_mt[33]? = some (mn_33, prog_5_method_14_code, (3, 3, (some .boolean), false, mc_33)) := rfl
set_option maxRecDepth 100000 in
theorem sz_34 : pi_mt[34]? = some (mn_34, prog_5_method_15_code, (3, 3, (some .boolean), false, mc_34)) := rfl
theorem hf28_0 : pi_fetch mc_28 0 = some (.aload_n 0, 1) := rfl
theorem hf28_1 : pi_fetch mc_28 1 = some (.getfield 9, 3) := rfl
theorem hf28_4 : pi_fetch mc_28 4 = some (.aload_n 0, 1) := rfl
theorem hf28_5 : pi_fetch mc_28 5 = some (.getfield 15, 3) := rfl
theorem hf28_8 : pi_fetch mc_28 8 = some (.iconst 2, 1) := rfl
theorem hf28_9 : pi_fetch mc_28 9 = some (.invokevirtual 111, 3) := rfl
theorem hf28_12 : pi_fetch mc_28 12 = some (.istore_n 2, 1) := rfl
theorem hf28_13 : pi_fetch mc_28 13 = some (.iload_n 2, 1) := rfl
theorem hf28_14 : pi_fetch mc_28 14 = some (.iconst (-1), 1) := rfl
theorem hf28_15 : pi_fetch mc_28 15 = some (.if_icmp .ne 5, 3) := rfl
theorem hf28_18 : pi_fetch mc_28 18 = some (.iconst 0, 1) := rfl
theorem hf28_19 : pi_fetch mc_28 19 = some (.ireturn, 1) := rfl
theorem hf28_20 : pi_fetch mc_28 20 = some (.aload_n 0, 1) := rfl
theorem hf28_21 : pi_fetch mc_28 21 = some (.getfield 15, 3) := rfl
theorem hf28_24 : pi_fetch mc_28 24 = some (.getfield 84, 3) := rfl
theorem hf28_27 : pi_fetch mc_28 27 = some (.bipush 32, 2) := rfl
theorem hf28_29 : pi_fetch mc_28 29 = some (.iload_n 1, 1) := rfl
theorem hf28_30 : pi_fetch mc_28 30 = some (.iadd, 1) := rfl
theorem hf28_31 : pi_fetch mc_28 31 = some (.invokestatic 88, 3) := rfl
theorem hf28_34 : pi_fetch mc_28 34 = some (.iload_n 2, 1) := rfl
theorem hf28_35 : pi_fetch mc_28 35 = some (.ishr, 1) := rfl
theorem hf28_36 : pi_fetch mc_28 36 = some (.iconst 1, 1) := rfl
theorem hf28_37 : pi_fetch mc_28 37 = some (.iand, 1) := rfl
theorem hf28_38 : pi_fetch mc_28 38 = some (.iconst 1, 1) := rfl
theorem hf28_39 : pi_fetch mc_28 39 = some (.if_icmp .ne 12, 3) := rfl
theorem hf28_42 : pi_fetch mc_28 42 = some (.aload_n 0, 1) := rfl
theorem hf28_43 : pi_fetch mc_28 43 = some (.getfield 9, 3) := rfl
theorem hf28_46 : pi_fetch mc_28 46 = some (.iconst 3, 1) := rfl
theorem hf28_47 : pi_fetch mc_28 47 = some (.invokevirtual 80, 3) := rfl
theorem hf28_50 : pi_fetch mc_28 50 = some (.ireturn, 1) := rfl
theorem hf28_51 : pi_fetch mc_28 51 = some (.aload_n 0, 1) := rfl
theorem hf28_52 : pi_fetch mc_28 52 = some (.getfield 15, 3) := rfl
theorem hf28_55 : pi_fetch mc_28 55 = some (.bipush 32, 2) := rfl
theorem hf28_57 : pi_fetch mc_28 57 = some (.iload_n 1, 1) := rfl
theorem hf28_58 : pi_fetch mc_28 58 = some (.iadd, 1) := rfl
theorem hf28_59 : pi_fetch mc_28 59 = some (.iconst 1, 1) := rfl
theorem hf28_60 : pi_fetch mc_28 60 = some (.iload_n 2, 1) := rfl
theorem hf28_61 : pi_fetch mc_28 61 = some (.ishl, 1) := rfl
theorem hf28_62 : pi_fetch mc_28 62 = some (.invokevirtual 117, 3) := rfl
theorem hf28_65 : pi_fetch mc_28 65 = some (.aload_n 0, 1) := rfl
theorem hf28_66 : pi_fetch mc_28 66 = some (.getfield 9, 3) := rfl
theorem hf28_69 : pi_fetch mc_28 69 = some (.invokevirtual 68, 3) := rfl
theorem hf28_72 : pi_fetch mc_28 72 = some (.iconst 1, 1) := rfl
theorem hf28_73 : pi_fetch mc_28 73 = some (.ireturn, 1) := rfl
theorem hf34_0 : pi_fetch mc_34 0 = some (.aload_n 0, 1) := rfl
theorem hf34_1 : pi_fetch mc_34 1 = some (.getfield 9, 3) := rfl
theorem hf34_4 : pi_fetch mc_34 4 = some (.aload_n 0, 1) := rfl
theorem hf34_5 : pi_fetch mc_34 5 = some (.getfield 15, 3) := rfl
theorem hf34_8 : pi_fetch mc_34 8 = some (.iconst 3, 1) := rfl
theorem hf34_9 : pi_fetch mc_34 9 = some (.invokevirtual 107, 3) := rfl
theorem hf34_12 : pi_fetch mc_34 12 = some (.istore_n 1, 1) := rfl
theorem hf34_13 : pi_fetch mc_34 13 = some (.iload_n 1, 1) := rfl
theorem hf34_14 : pi_fetch mc_34 14 = some (.iconst (-1), 1) := rfl
theorem hf34_15 : pi_fetch mc_34 15 = some (.if_icmp .ne 5, 3) := rfl
theorem hf34_18 : pi_fetch mc_34 18 = some (.iconst 0, 1) := rfl
theorem hf34_19 : pi_fetch mc_34 19 = some (.ireturn, 1) := rfl
theorem hf34_20 : pi_fetch mc_34 20 = some (.aload_n 0, 1) := rfl
theorem hf34_21 : pi_fetch mc_34 21 = some (.getfield 9, 3) := rfl
theorem hf34_24 : pi_fetch mc_34 24 = some (.aload_n 0, 1) := rfl
theorem hf34_25 : pi_fetch mc_34 25 = some (.getfield 15, 3) := rfl
theorem hf34_28 : pi_fetch mc_34 28 = some (.iconst 0, 1) := rfl
theorem hf34_29 : pi_fetch mc_34 29 = some (.invokevirtual 111, 3) := rfl
theorem hf34_32 : pi_fetch mc_34 32 = some (.istore_n 2, 1) := rfl
theorem hf34_33 : pi_fetch mc_34 33 = some (.iload_n 2, 1) := rfl
theorem hf34_34 : pi_fetch mc_34 34 = some (.iconst (-1), 1) := rfl
theorem hf34_35 : pi_fetch mc_34 35 = some (.if_icmp .ne 5, 3) := rfl
theorem hf34_38 : pi_fetch mc_34 38 = some (.iconst 0, 1) := rfl
theorem hf34_39 : pi_fetch mc_34 39 = some (.ireturn, 1) := rfl
theorem hf34_40 : pi_fetch mc_34 40 = some (.aload_n 0, 1) := rfl
theorem hf34_41 : pi_fetch mc_34 41 = some (.getfield 15, 3) := rfl
theorem hf34_44 : pi_fetch mc_34 44 = some (.getfield 84, 3) := rfl
theorem hf34_47 : pi_fetch mc_34 47 = some (.bipush 16, 2) := rfl
theorem hf34_49 : pi_fetch mc_34 49 = some (.iload_n 2, 1) := rfl
theorem hf34_50 : pi_fetch mc_34 50 = some (.iadd, 1) := rfl
theorem hf34_51 : pi_fetch mc_34 51 = some (.invokestatic 88, 3) := rfl
theorem hf34_54 : pi_fetch mc_34 54 = some (.iload_n 1, 1) := rfl
theorem hf34_55 : pi_fetch mc_34 55 = some (.ishr, 1) := rfl
theorem hf34_56 : pi_fetch mc_34 56 = some (.iconst 1, 1) := rfl
theorem hf34_57 : pi_fetch mc_34 57 = some (.iand, 1) := rfl
theorem hf34_58 : pi_fetch mc_34 58 = some (.iconst 1, 1) := rfl
theorem hf34_59 : pi_fetch mc_34 59 = some (.if_icmp .ne 12, 3) := rfl
theorem hf34_62 : pi_fetch mc_34 62 = some (.aload_n 0, 1) := rfl
theorem hf34_63 : pi_fetch mc_34 63 = some (.getfield 9, 3) := rfl
theorem hf34_66 : pi_fetch mc_34 66 = some (.iconst 3, 1) := rfl
theorem hf34_67 : pi_fetch mc_34 67 = some (.invokevirtual 80, 3) := rfl
theorem hf34_70 : pi_fetch mc_34 70 = some (.ireturn, 1) := rfl
theorem hf34_71 : pi_fetch mc_34 71 = some (.aload_n 0, 1) := rfl
theorem hf34_72 : pi_fetch mc_34 72 = some (.getfield 15, 3) := rfl
theorem hf34_75 : pi_fetch mc_34 75 = some (.bipush 16, 2) := rfl
theorem hf34_77 : pi_fetch mc_34 77 = some (.iload_n 2, 1) := rfl
theorem hf34_78 : pi_fetch mc_34 78 = some (.iadd, 1) := rfl
theorem hf34_79 : pi_fetch mc_34 79 = some (.iconst 1, 1) := rfl
theorem hf34_80 : pi_fetch mc_34 80 = some (.iload_n 1, 1) := rfl
theorem hf34_81 : pi_fetch mc_34 81 = some (.ishl, 1) := rfl
theorem hf34_82 : pi_fetch mc_34 82 = some (.invokevirtual 117, 3) := rfl
theorem hf34_85 : pi_fetch mc_34 85 = some (.aload_n 0, 1) := rfl
theorem hf34_86 : pi_fetch mc_34 86 = some (.getfield 9, 3) := rfl
theorem hf34_89 : pi_fetch mc_34 89 = some (.invokevirtual 68, 3) := rfl
theorem hf34_92 : pi_fetch mc_34 92 = some (.iconst 1, 1) := rfl
theorem hf34_93 : pi_fetch mc_34 93 = some (.ireturn, 1) := rfl
theorem hf33_0 : pi_fetch mc_33 0 = some (.aload_n 0, 1) := rfl
theorem hf33_1 : pi_fetch mc_33 1 = some (.getfield 9, 3) := rfl
theorem hf33_4 : pi_fetch mc_33 4 = some (.aload_n 0, 1) := rfl
theorem hf33_5 : pi_fetch mc_33 5 = some (.getfield 15, 3) := rfl
theorem hf33_8 : pi_fetch mc_33 8 = some (.iconst 4, 1) := rfl
theorem hf33_9 : pi_fetch mc_33 9 = some (.invokevirtual 111, 3) := rfl
theorem hf33_12 : pi_fetch mc_33 12 = some (.istore_n 1, 1) := rfl
theorem hf33_13 : pi_fetch mc_33 13 = some (.iload_n 1, 1) := rfl
theorem hf33_14 : pi_fetch mc_33 14 = some (.iconst (-1), 1) := rfl
theorem hf33_15 : pi_fetch mc_33 15 = some (.if_icmp .ne 5, 3) := rfl
theorem hf33_18 : pi_fetch mc_33 18 = some (.iconst 0, 1) := rfl
theorem hf33_19 : pi_fetch mc_33 19 = some (.ireturn, 1) := rfl
theorem hf33_20 : pi_fetch mc_33 20 = some (.aload_n 0, 1) := rfl
theorem hf33_21 : pi_fetch mc_33 21 = some (.getfield 15, 3) := rfl
theorem hf33_24 : pi_fetch mc_33 24 = some (.getfield 84, 3) := rfl
theorem hf33_27 : pi_fetch mc_33 27 = some (.bipush 56, 2) := rfl
theorem hf33_29 : pi_fetch mc_33 29 = some (.iload_n 1, 1) := rfl
theorem hf33_30 : pi_fetch mc_33 30 = some (.iadd, 1) := rfl
theorem hf33_31 : pi_fetch mc_33 31 = some (.invokestatic 88, 3) := rfl
theorem hf33_34 : pi_fetch mc_33 34 = some (.iconst (-1), 1) := rfl
theorem hf33_35 : pi_fetch mc_33 35 = some (.if_icmp .eq 12, 3) := rfl
theorem hf33_38 : pi_fetch mc_33 38 = some (.aload_n 0, 1) := rfl
theorem hf33_39 : pi_fetch mc_33 39 = some (.getfield 9, 3) := rfl
theorem hf33_42 : pi_fetch mc_33 42 = some (.iconst 3, 1) := rfl
theorem hf33_43 : pi_fetch mc_33 43 = some (.invokevirtual 80, 3) := rfl
theorem hf33_46 : pi_fetch mc_33 46 = some (.ireturn, 1) := rfl
theorem hf33_47 : pi_fetch mc_33 47 = some (.aload_n 0, 1) := rfl
theorem hf33_48 : pi_fetch mc_33 48 = some (.getfield 9, 3) := rfl
theorem hf33_51 : pi_fetch mc_33 51 = some (.invokevirtual 68, 3) := rfl
theorem hf33_54 : pi_fetch mc_33 54 = some (.aload_n 0, 1) := rfl
theorem hf33_55 : pi_fetch mc_33 55 = some (.getfield 9, 3) := rfl
theorem hf33_58 : pi_fetch mc_33 58 = some (.aload_n 0, 1) := rfl
theorem hf33_59 : pi_fetch mc_33 59 = some (.getfield 15, 3) := rfl
theorem hf33_62 : pi_fetch mc_33 62 = some (.iconst 4, 1) := rfl
theorem hf33_63 : pi_fetch mc_33 63 = some (.invokevirtual 111, 3) := rfl
theorem hf33_66 : pi_fetch mc_33 66 = some (.istore_n 2, 1) := rfl
theorem hf33_67 : pi_fetch mc_33 67 = some (.iload_n 2, 1) := rfl
theorem hf33_68 : pi_fetch mc_33 68 = some (.iconst (-1), 1) := rfl
theorem hf33_69 : pi_fetch mc_33 69 = some (.if_icmp .ne 5, 3) := rfl
theorem hf33_72 : pi_fetch mc_33 72 = some (.iconst 0, 1) := rfl
theorem hf33_73 : pi_fetch mc_33 73 = some (.ireturn, 1) := rfl
theorem hf33_74 : pi_fetch mc_33 74 = some (.iload_n 2, 1) := rfl
theorem hf33_75 : pi_fetch mc_33 75 = some (.iload_n 1, 1) := rfl
theorem hf33_76 : pi_fetch mc_33 76 = some (.if_icmp .ne 12, 3) := rfl
theorem hf33_79 : pi_fetch mc_33 79 = some (.aload_n 0, 1) := rfl
theorem hf33_80 : pi_fetch mc_33 80 = some (.getfield 9, 3) := rfl
theorem hf33_83 : pi_fetch mc_33 83 = some (.iconst 3, 1) := rfl
theorem hf33_84 : pi_fetch mc_33 84 = some (.invokevirtual 80, 3) := rfl
theorem hf33_87 : pi_fetch mc_33 87 = some (.ireturn, 1) := rfl
theorem hf33_88 : pi_fetch mc_33 88 = some (.aload_n 0, 1) := rfl
theorem hf33_89 : pi_fetch mc_33 89 = some (.getfield 15, 3) := rfl
theorem hf33_92 : pi_fetch mc_33 92 = some (.getfield 84, 3) := rfl
theorem hf33_95 : pi_fetch mc_33 95 = some (.bipush 56, 2) := rfl
theorem hf33_97 : pi_fetch mc_33 97 = some (.iload_n 1, 1) := rfl
theorem hf33_98 : pi_fetch mc_33 98 = some (.iadd, 1) := rfl
theorem hf33_99 : pi_fetch mc_33 99 = some (.iload_n 2, 1) := rfl
theorem hf33_100 : pi_fetch mc_33 100 = some (.invokestatic 121, 3) := rfl
theorem hf33_103 : pi_fetch mc_33 103 = some (.aload_n 0, 1) := rfl
theorem hf33_104 : pi_fetch mc_33 104 = some (.getfield 9, 3) := rfl
theorem hf33_107 : pi_fetch mc_33 107 = some (.invokevirtual 68, 3) := rfl
theorem hf33_110 : pi_fetch mc_33 110 = some (.iconst 1, 1) := rfl
theorem hf33_111 : pi_fetch mc_33 111 = some (.ireturn, 1) := rfl
theorem hm_16 : ((Int8.ofInt 16).toInt32) = Int32.ofNat 16 := by decide
theorem hm_32 : ((Int8.ofInt 32).toInt32) = Int32.ofNat 32 := by decide
theorem hm_56 : ((Int8.ofInt 56).toInt32) = Int32.ofNat 56 := by decide
theorem cl_deed {d B M l : Nat} {tp : Nat → Nat} {w : pi_W} {σ : ls_S} (hO : CO tp B M w σ) (ho : nt_ok σ.2.2.2) (m2 : nt_c 2 σ.2.2.2 ≤ 5) (hl : l < 6) : hq_F (d + 3) sm28 (cl_P tp B M (ls_deed tp B M l σ) w) (0, lv_args 0 [.ref 10, .int (Int32.ofNat l)], [], w) := by
  obtain ⟨t, A, nr, NT⟩ := σ
  obtain ⟨h, hL⟩ := hO
  dsimp only at *
  have g0 : pi_get (lv_args 0 [.ref 10, .int (Int32.ofNat l)]) 0 = some (.ref 10) := rfl
  have g1 : pi_get (lv_args 0 [.ref 10, .int (Int32.ofNat l)]) 1 = some (.int (Int32.ofNat l)) := rfl
  have kc0 : (((Int8.ofInt 32).toInt32)).toInt = 32 := by decide
  have kc1 : ((-1 : Int32)).toInt = (-1) := by decide
  have kc2 : ((0 : Int32)).toInt = 0 := by decide
  have kc3 : ((1 : Int32)).toInt = 1 := by decide
  have kc4 : ((Int32.ofInt (-1))).toInt = (-1) := by decide
  have kc5 : ((Int32.ofInt 0)).toInt = 0 := by decide
  have kc6 : ((Int32.ofInt 1)).toInt = 1 := by decide
  have kc7 : ((Int32.ofInt 2)).toInt = 2 := by decide
  have kc8 : ((Int32.ofInt 3)).toInt = 3 := by decide
  have kz := sy_z0
  refine hq_F.st (s' := (1, _, _, _)) hf28_0 rfl rfl rfl (hs_al g0) ?_
  refine hq_F.st (s' := (4, _, _, _)) hf28_1 rfl rfl rfl (hq_gf h.1 sh_10 sk_3_9 (hq_ref h.1 sh_10 (b := 1) rfl)) ?_
  refine hq_F.st (s' := (5, _, _, _)) hf28_4 rfl rfl rfl (hs_al g0) ?_
  refine hq_F.st (s' := (8, _, _, _)) hf28_5 rfl rfl rfl (hq_gf h.1 sh_10 sk_3_15 (hq_ref h.1 sh_10 (b := 7) rfl)) ?_
  refine hq_F.st (s' := (9, _, _, _)) hf28_8 rfl rfl rfl rfl ?_
  refine hq_F.call hf28_9 rfl rfl si_3_111 (by decide) (by decide) sz_108 (sy_argsV h.1 sh_1 rfl rfl rfl (Nat.le_of_ble_eq_true rfl) rfl (Nat.le_of_ble_eq_true rfl) rfl (by decide)) (cn_nh_s (d := d) (s := 2) h hL.1 ho (by decide)) (fun r w' q => by rcases q with ⟨q, _⟩ | ⟨_, q, _⟩; rw [q]; rw [q.1.1, h.1.1]) ?_
  rintro r9 w2 q
  try dsimp only
  rcases q with ⟨rfl, v2, rfl, n2, e2, f2⟩ | ⟨rfl, h2, F2, q⟩
  · obtain ⟨b, hb, rfl, lb⟩ := ls_look_in ho (by omega) n2 e2 f2
    have tb : (Int32.ofNat b).toInt = (b : Int) := hn_t (by omega)
    refine hq_F.st (s' := (13, _, _, _)) hf28_12 rfl rfl rfl rfl ?_
    refine hq_F.st (s' := (14, _, _, _)) hf28_13 rfl rfl rfl (hs_iln (pi_get_set _ _ _)) ?_
    refine hq_F.st (s' := (15, _, _, _)) hf28_14 rfl rfl rfl rfl ?_
    refine hq_F.st (s' := (20, _, _, _)) hf28_15 rfl rfl rfl (hs_ic (ci_ne (by omega)) rfl) ?_
    refine hq_F.st (s' := (21, _, _, _)) hf28_20 rfl rfl rfl (hs_al (hg_nr g0 (by decide))) ?_
    refine hq_F.st (s' := (24, _, _, _)) hf28_21 rfl rfl rfl (hq_gf h.1 sh_10 sk_3_15 (hq_ref h.1 sh_10 (b := 7) rfl)) ?_
    refine hq_F.st (s' := (27, _, _, _)) hf28_24 rfl rfl rfl (hq_gf h.1 sh_7 sk_3_84 (hq_ref h.1 sh_7 (b := 8) rfl)) ?_
    refine hq_F.st (s' := (29, _, _, _)) hf28_27 rfl rfl rfl rfl ?_
    refine hq_F.st (s' := (30, _, _, _)) hf28_29 rfl rfl rfl (hs_iln (hg_ne g1 (by decide))) ?_
    refine hq_F.st (s' := (31, _, _, _)) hf28_30 rfl rfl rfl rfl ?_
    rw [hn_k (n := l) hm_32]
    refine hq_F.call hf28_31 rfl rfl si_3_88 (by decide) (by decide) sz_159 (sy_argsS rfl rfl rfl (Nat.le_of_ble_eq_true rfl) (by decide) rfl (Nat.le_of_ble_eq_true rfl) (by decide)) (ca_at h.1 sh_8 (j := 32 + l) (by omega) (by omega)) (fun _ _ q => by rw [q.1]) ?_
    rintro r31 w2 ⟨rfl, rfl⟩
    try dsimp only
    have ga : gv w2 8 (32 + l) = A 3 l := hL.2.2.2 3 l (by decide) (by show l < 6; omega) (fun q => absurd q (by decide)) (fun q => absurd q (by decide))
    rw [ga]
    refine hq_F.st (s' := (35, _, _, _)) hf28_34 rfl rfl rfl (hs_iln (pi_get_set _ _ _)) ?_
    refine hq_F.st (s' := (36, _, _, _)) hf28_35 rfl rfl rfl rfl ?_
    refine hq_F.st (s' := (37, _, _, _)) hf28_36 rfl rfl rfl rfl ?_
    refine hq_F.st (s' := (38, _, _, _)) hf28_37 rfl rfl rfl rfl ?_
    refine hq_F.st (s' := (39, _, _, _)) hf28_38 rfl rfl rfl rfl ?_
    by_cases b39 : ¬ ((((A 3 l) >>> ((Int32.ofNat b) &&& 31)) &&& (Int32.ofInt 1))).toInt = 1
    · skip
      refine hq_F.st (s' := (51, _, _, _)) hf28_39 rfl rfl rfl (hs_ic (ci_ne (by omega)) rfl) ?_
      refine hq_F.st (s' := (52, _, _, _)) hf28_51 rfl rfl rfl (hs_al (hg_nr g0 (by decide))) ?_
      refine hq_F.st (s' := (55, _, _, _)) hf28_52 rfl rfl rfl (hq_gf h.1 sh_10 sk_3_15 (hq_ref h.1 sh_10 (b := 7) rfl)) ?_
      refine hq_F.st (s' := (57, _, _, _)) hf28_55 rfl rfl rfl rfl ?_
      refine hq_F.st (s' := (58, _, _, _)) hf28_57 rfl rfl rfl (hs_iln (hg_ne g1 (by decide))) ?_
      refine hq_F.st (s' := (59, _, _, _)) hf28_58 rfl rfl rfl rfl ?_
      refine hq_F.st (s' := (60, _, _, _)) hf28_59 rfl rfl rfl rfl ?_
      refine hq_F.st (s' := (61, _, _, _)) hf28_60 rfl rfl rfl (hs_iln (pi_get_set _ _ _)) ?_
      refine hq_F.st (s' := (62, _, _, _)) hf28_61 rfl rfl rfl rfl ?_
      rw [hn_k (n := l) hm_32]
      refine hq_F.call hf28_62 rfl rfl si_3_117 (by decide) (by decide) sz_15 (sy_argsV h.1 sh_7 rfl rfl rfl (Nat.le_of_ble_eq_true rfl) rfl (Nat.le_of_ble_eq_true rfl) rfl (by decide)) (cl_ab (d := d + 1) (j := 32 + l) h.1 (by omega) (by omega)) (fun _ _ q => by rw [q.2.1.1, h.1.1]) ?_
      rintro r62 w3 ⟨rfl, hC3, hw3⟩
      try dsimp only
      have hT3 := h.fr hC3 (wpF hw3) rfl
      have hL3 := hL.put (by decide) (c0 := 3) (k0 := l) (x := ls_or (A 3 l) b) (by decide) (by show l < 6; omega) hw3 (by rw [ga]; rfl)
      refine hq_F.st (s' := (66, _, _, _)) hf28_65 rfl rfl rfl (hs_al (hg_nr g0 (by decide))) ?_
      refine hq_F.st (s' := (69, _, _, _)) hf28_66 rfl rfl rfl (hq_gf hC3 sh_10 sk_3_9 (hq_ref hC3 sh_10 (b := 1) rfl)) ?_
      refine hq_F.call hf28_69 rfl rfl si_3_68 (by decide) (by decide) sz_98 (sy_argsV hC3 sh_1 rfl rfl rfl (Nat.le_of_ble_eq_true rfl) rfl (Nat.le_of_ble_eq_true rfl) rfl (by decide)) (ct_adv (d := d) hT3 (by have := n2.1; omega)) (fun _ _ q => by rw [q.2.1.1.1, hC3.1]) ?_
      rintro r69 w8 ⟨rfl, k1, k2⟩
      try dsimp only
      refine hq_F.st (s' := (73, _, _, _)) hf28_72 rfl rfl rfl rfl ?_
      refine hq_F.en hf28_73 rfl rfl ?_
      exact ⟨k1.1, (cl_w8 hw3 (by omega)).tr (k2.cov (by decide)), Or.inl ⟨rfl, (tq_nx tp B M t, ld_u A 3 l (ls_or (A 3 l) b), nr, NT), by show ls_b (ls_look 2 t NT) _ = _; rw [lb, ls_br]; exact if_neg (fun q => b39 (sy_one.mpr (of_decide_eq_true q))), k1, hL3.fr k2 (by decide) (by decide)⟩⟩
    · skip
      refine hq_F.st (s' := (42, _, _, _)) hf28_39 rfl rfl rfl (hs_icn (t := 51) (ci_nen (by omega)) rfl) ?_
      refine hq_F.st (s' := (43, _, _, _)) hf28_42 rfl rfl rfl (hs_al (hg_nr g0 (by decide))) ?_
      refine hq_F.st (s' := (46, _, _, _)) hf28_43 rfl rfl rfl (hq_gf h.1 sh_10 sk_3_9 (hq_ref h.1 sh_10 (b := 1) rfl)) ?_
      refine hq_F.st (s' := (47, _, _, _)) hf28_46 rfl rfl rfl rfl ?_
      refine hq_F.call hf28_47 rfl rfl si_3_80 (by decide) (by decide) sz_103 (sy_argsV h.1 sh_1 rfl rfl rfl (Nat.le_of_ble_eq_true rfl) rfl (Nat.le_of_ble_eq_true rfl) rfl (by decide)) (ct_ref h ((Int32.ofInt 3))) (fun _ _ q => by rw [q.2.1.1.1, h.1.1]) ?_
      rintro r47 w9 ⟨rfl, k1, k2, k3, k4⟩
      try dsimp only
      refine hq_F.en hf28_50 rfl rfl ?_
      exact ⟨k1.1, k2.cov (by decide), Or.inr ⟨rfl, 3, t.2.1, by show ls_b (ls_look 2 t NT) _ = _; rw [lb, ls_br]; exact if_pos (decide_eq_true (sy_one.mp (Decidable.not_not.mp b39))), by rw [k3]; decide, k4⟩⟩
  · skip
    refine hq_F.st (s' := (13, _, _, _)) hf28_12 rfl rfl rfl rfl ?_
    refine hq_F.st (s' := (14, _, _, _)) hf28_13 rfl rfl rfl (hs_iln (pi_get_set _ _ _)) ?_
    refine hq_F.st (s' := (15, _, _, _)) hf28_14 rfl rfl rfl rfl ?_
    refine hq_F.st (s' := (18, _, _, _)) hf28_15 rfl rfl rfl (hs_icn (t := 20) (ci_nen (by omega)) rfl) ?_
    refine hq_F.st (s' := (19, _, _, _)) hf28_18 rfl rfl rfl rfl ?_
    refine hq_F.en hf28_19 rfl rfl ?_
    rcases q with ⟨q1, q2⟩ | ⟨q1, q2, q3⟩
    · exact ⟨h2.1, F2.cov (by decide), Or.inr ⟨rfl, 1, t.2.1, by show ls_b (ls_look 2 t NT) _ = _; rw [ls_look_1 q1]; rfl, q2⟩⟩
    · exact ⟨h2.1, F2.cov (by decide), Or.inr ⟨rfl, 3, t.2.1, by show ls_b (ls_look 2 t NT) _ = _; rw [ls_look_3 q1 q2]; rfl, q3⟩⟩
theorem sy_m1 {x : Int32} : (x - 1).toInt = -1 ↔ x = 0 := by
  constructor
  · intro h
    have e : x - 1 = -1 := Int32.toInt_inj.mp (by rw [h]; decide)
    calc x = x - 1 + 1 := (Int32.sub_add_cancel x 1).symm
      _ = 0 := by rw [e]; decide
  · intro h
    rw [h]
    decide
theorem cl_post {d B M : Nat} {tp : Nat → Nat} {w : pi_W} {σ : ls_S} (hO : CO tp B M w (tq_nx tp B M σ.1, σ.2)) (hI : ls_I σ) : hq_F (d + 4) sm34 (cl_P tp B M (ls_post tp B M σ) w) (0, lv_args 0 [.ref 10], [], w) := by
  obtain ⟨t, A, nr, NT⟩ := σ
  obtain ⟨h, hL⟩ := hO
  obtain ⟨ho, ⟨m0, m2, m3, m4⟩, mr, i3, i7⟩ := hI
  dsimp only at *
  have g0 : pi_get (lv_args 0 [.ref 10]) 0 = some (.ref 10) := rfl
  have kc0 : (((Int8.ofInt 16).toInt32)).toInt = 16 := by decide
  have kc1 : ((-1 : Int32)).toInt = (-1) := by decide
  have kc2 : ((0 : Int32)).toInt = 0 := by decide
  have kc3 : ((1 : Int32)).toInt = 1 := by decide
  have kc4 : ((Int32.ofInt (-1))).toInt = (-1) := by decide
  have kc5 : ((Int32.ofInt 0)).toInt = 0 := by decide
  have kc6 : ((Int32.ofInt 1)).toInt = 1 := by decide
  have kc7 : ((Int32.ofInt 3)).toInt = 3 := by decide
  have kz := sy_z0
  refine hq_F.st (s' := (1, _, _, _)) hf34_0 rfl rfl rfl (hs_al g0) ?_
  refine hq_F.st (s' := (4, _, _, _)) hf34_1 rfl rfl rfl (hq_gf h.1 sh_10 sk_3_9 (hq_ref h.1 sh_10 (b := 1) rfl)) ?_
  refine hq_F.st (s' := (5, _, _, _)) hf34_4 rfl rfl rfl (hs_al g0) ?_
  refine hq_F.st (s' := (8, _, _, _)) hf34_5 rfl rfl rfl (hq_gf h.1 sh_10 sk_3_15 (hq_ref h.1 sh_10 (b := 7) rfl)) ?_
  refine hq_F.st (s' := (9, _, _, _)) hf34_8 rfl rfl rfl rfl ?_
  refine hq_F.call hf34_9 rfl rfl si_3_107 (by decide) (by decide) sz_109 (sy_argsV h.1 sh_1 rfl rfl rfl (Nat.le_of_ble_eq_true rfl) rfl (Nat.le_of_ble_eq_true rfl) rfl (by decide)) (cn_tk_s (d := d) (s := 3) h hL.1 ho (by decide)) (fun r w' q => by rcases q with ⟨_, _, _, _, _, q, _⟩ | ⟨_, q, _⟩; rw [q.1.1, h.1.1]; rw [q.1.1, h.1.1]) ?_
  rintro r9 w1 q
  try dsimp only
  rcases q with ⟨v1, rfl, n1, e1, f1, h1, F1⟩ | ⟨rfl, h1, F1, q⟩
  · obtain ⟨a, ha, rfl, la⟩ := ls_look_in ho (by omega) n1 e1 f1
    have ta : (Int32.ofNat a).toInt = (a : Int) := hn_t (by omega)
    have hL1 := hL.fr F1 (by decide) (by decide)
    refine hq_F.st (s' := (13, _, _, _)) hf34_12 rfl rfl rfl rfl ?_
    refine hq_F.st (s' := (14, _, _, _)) hf34_13 rfl rfl rfl (hs_iln (pi_get_set _ _ _)) ?_
    refine hq_F.st (s' := (15, _, _, _)) hf34_14 rfl rfl rfl rfl ?_
    refine hq_F.st (s' := (20, _, _, _)) hf34_15 rfl rfl rfl (hs_ic (ci_ne (by omega)) rfl) ?_
    refine hq_F.st (s' := (21, _, _, _)) hf34_20 rfl rfl rfl (hs_al (hg_nr g0 (by decide))) ?_
    refine hq_F.st (s' := (24, _, _, _)) hf34_21 rfl rfl rfl (hq_gf h1.1 sh_10 sk_3_9 (hq_ref h1.1 sh_10 (b := 1) rfl)) ?_
    refine hq_F.st (s' := (25, _, _, _)) hf34_24 rfl rfl rfl (hs_al (hg_nr g0 (by decide))) ?_
    refine hq_F.st (s' := (28, _, _, _)) hf34_25 rfl rfl rfl (hq_gf h1.1 sh_10 sk_3_15 (hq_ref h1.1 sh_10 (b := 7) rfl)) ?_
    refine hq_F.st (s' := (29, _, _, _)) hf34_28 rfl rfl rfl rfl ?_
    refine hq_F.call hf34_29 rfl rfl si_3_111 (by decide) (by decide) sz_108 (sy_argsV h1.1 sh_1 rfl rfl rfl (Nat.le_of_ble_eq_true rfl) rfl (Nat.le_of_ble_eq_true rfl) rfl (by decide)) (cn_nh_s (d := d + 1) (s := 0) h1 hL1.1 ho (by decide)) (fun r w' q => by rcases q with ⟨q, _⟩ | ⟨_, q, _⟩; rw [q]; rw [q.1.1, h1.1.1]) ?_
    rintro r29 w2 q
    try dsimp only
    rcases q with ⟨rfl, v2, rfl, n2, e2, f2⟩ | ⟨rfl, h2, F2, q⟩
    · obtain ⟨b, hb, rfl, lb⟩ := ls_look_in ho (by omega) n2 e2 f2
      have tb : (Int32.ofNat b).toInt = (b : Int) := hn_t (by omega)
      refine hq_F.st (s' := (33, _, _, _)) hf34_32 rfl rfl rfl rfl ?_
      refine hq_F.st (s' := (34, _, _, _)) hf34_33 rfl rfl rfl (hs_iln (pi_get_set _ _ _)) ?_
      refine hq_F.st (s' := (35, _, _, _)) hf34_34 rfl rfl rfl rfl ?_
      refine hq_F.st (s' := (40, _, _, _)) hf34_35 rfl rfl rfl (hs_ic (ci_ne (by omega)) rfl) ?_
      refine hq_F.st (s' := (41, _, _, _)) hf34_40 rfl rfl rfl (hs_al (hg_nr (hg_nr g0 (by decide)) (by decide))) ?_
      refine hq_F.st (s' := (44, _, _, _)) hf34_41 rfl rfl rfl (hq_gf h1.1 sh_10 sk_3_15 (hq_ref h1.1 sh_10 (b := 7) rfl)) ?_
      refine hq_F.st (s' := (47, _, _, _)) hf34_44 rfl rfl rfl (hq_gf h1.1 sh_7 sk_3_84 (hq_ref h1.1 sh_7 (b := 8) rfl)) ?_
      refine hq_F.st (s' := (49, _, _, _)) hf34_47 rfl rfl rfl rfl ?_
      refine hq_F.st (s' := (50, _, _, _)) hf34_49 rfl rfl rfl (hs_iln (pi_get_set _ _ _)) ?_
      refine hq_F.st (s' := (51, _, _, _)) hf34_50 rfl rfl rfl rfl ?_
      rw [hn_k (n := b) hm_16]
      refine hq_F.call hf34_51 rfl rfl si_3_88 (by decide) (by decide) sz_159 (sy_argsS rfl rfl rfl (Nat.le_of_ble_eq_true rfl) (by decide) rfl (Nat.le_of_ble_eq_true rfl) (by decide)) (ca_at h1.1 sh_8 (j := 16 + b) (by omega) (by omega)) (fun _ _ q => by rw [q.1]) ?_
      rintro r51 w2 ⟨rfl, rfl⟩
      try dsimp only
      have ga : gv w2 8 (16 + b) = A 1 b := hL1.2.2.2 1 b (by decide) (by show b < 10; omega) (fun q => absurd q (by decide)) (fun q => absurd q (by decide))
      rw [ga]
      refine hq_F.st (s' := (55, _, _, _)) hf34_54 rfl rfl rfl (hs_iln (hg_ne (pi_get_set _ _ _) (by decide))) ?_
      refine hq_F.st (s' := (56, _, _, _)) hf34_55 rfl rfl rfl rfl ?_
      refine hq_F.st (s' := (57, _, _, _)) hf34_56 rfl rfl rfl rfl ?_
      refine hq_F.st (s' := (58, _, _, _)) hf34_57 rfl rfl rfl rfl ?_
      refine hq_F.st (s' := (59, _, _, _)) hf34_58 rfl rfl rfl rfl ?_
      by_cases b59 : ¬ ((((A 1 b) >>> ((Int32.ofNat a) &&& 31)) &&& (Int32.ofInt 1))).toInt = 1
      · skip
        refine hq_F.st (s' := (71, _, _, _)) hf34_59 rfl rfl rfl (hs_ic (ci_ne (by omega)) rfl) ?_
        refine hq_F.st (s' := (72, _, _, _)) hf34_71 rfl rfl rfl (hs_al (hg_nr (hg_nr g0 (by decide)) (by decide))) ?_
        refine hq_F.st (s' := (75, _, _, _)) hf34_72 rfl rfl rfl (hq_gf h1.1 sh_10 sk_3_15 (hq_ref h1.1 sh_10 (b := 7) rfl)) ?_
        refine hq_F.st (s' := (77, _, _, _)) hf34_75 rfl rfl rfl rfl ?_
        refine hq_F.st (s' := (78, _, _, _)) hf34_77 rfl rfl rfl (hs_iln (pi_get_set _ _ _)) ?_
        refine hq_F.st (s' := (79, _, _, _)) hf34_78 rfl rfl rfl rfl ?_
        refine hq_F.st (s' := (80, _, _, _)) hf34_79 rfl rfl rfl rfl ?_
        refine hq_F.st (s' := (81, _, _, _)) hf34_80 rfl rfl rfl (hs_iln (hg_ne (pi_get_set _ _ _) (by decide))) ?_
        refine hq_F.st (s' := (82, _, _, _)) hf34_81 rfl rfl rfl rfl ?_
        rw [hn_k (n := b) hm_16]
        refine hq_F.call hf34_82 rfl rfl si_3_117 (by decide) (by decide) sz_15 (sy_argsV h1.1 sh_7 rfl rfl rfl (Nat.le_of_ble_eq_true rfl) rfl (Nat.le_of_ble_eq_true rfl) rfl (by decide)) (cl_ab (d := d + 2) (j := 16 + b) h1.1 (by omega) (by omega)) (fun _ _ q => by rw [q.2.1.1, h1.1.1]) ?_
        rintro r82 w3 ⟨rfl, hC3, hw3⟩
        try dsimp only
        have hT3 := h1.fr hC3 (wpF hw3) rfl
        have hL3 := hL1.put (by decide) (c0 := 1) (k0 := b) (x := ls_or (A 1 b) a) (by decide) (by show b < 10; omega) hw3 (by rw [ga]; rfl)
        refine hq_F.st (s' := (86, _, _, _)) hf34_85 rfl rfl rfl (hs_al (hg_nr (hg_nr g0 (by decide)) (by decide))) ?_
        refine hq_F.st (s' := (89, _, _, _)) hf34_86 rfl rfl rfl (hq_gf hC3 sh_10 sk_3_9 (hq_ref hC3 sh_10 (b := 1) rfl)) ?_
        refine hq_F.call hf34_89 rfl rfl si_3_68 (by decide) (by decide) sz_98 (sy_argsV hC3 sh_1 rfl rfl rfl (Nat.le_of_ble_eq_true rfl) rfl (Nat.le_of_ble_eq_true rfl) rfl (by decide)) (ct_adv (d := d + 1) hT3 (by have := n2.1; omega)) (fun _ _ q => by rw [q.2.1.1.1, hC3.1]) ?_
        rintro r89 w8 ⟨rfl, k1, k2⟩
        try dsimp only
        refine hq_F.st (s' := (93, _, _, _)) hf34_92 rfl rfl rfl rfl ?_
        refine hq_F.en hf34_93 rfl rfl ?_
        exact ⟨k1.1, (F1.cov (by decide)).tr ((cl_w8 hw3 (by omega)).tr (k2.cov (by decide))), Or.inl ⟨rfl, (tq_nx tp B M (tq_nx tp B M (tq_nx tp B M t)), ld_u A 1 b (ls_or (A 1 b) a), nr, NT), by show ls_b (ls_look 3 (tq_nx tp B M t) NT) _ = _; rw [la, ls_br]; show ls_b (ls_look 0 (tq_nx tp B M (tq_nx tp B M t)) NT) _ = _; rw [lb, ls_br]; exact if_neg (fun q => b59 (sy_one.mpr (of_decide_eq_true q))), k1, hL3.fr k2 (by decide) (by decide)⟩⟩
      · skip
        refine hq_F.st (s' := (62, _, _, _)) hf34_59 rfl rfl rfl (hs_icn (t := 71) (ci_nen (by omega)) rfl) ?_
        refine hq_F.st (s' := (63, _, _, _)) hf34_62 rfl rfl rfl (hs_al (hg_nr (hg_nr g0 (by decide)) (by decide))) ?_
        refine hq_F.st (s' := (66, _, _, _)) hf34_63 rfl rfl rfl (hq_gf h1.1 sh_10 sk_3_9 (hq_ref h1.1 sh_10 (b := 1) rfl)) ?_
        refine hq_F.st (s' := (67, _, _, _)) hf34_66 rfl rfl rfl rfl ?_
        refine hq_F.call hf34_67 rfl rfl si_3_80 (by decide) (by decide) sz_103 (sy_argsV h1.1 sh_1 rfl rfl rfl (Nat.le_of_ble_eq_true rfl) rfl (Nat.le_of_ble_eq_true rfl) rfl (by decide)) (ct_ref h1 ((Int32.ofInt 3))) (fun _ _ q => by rw [q.2.1.1.1, h1.1.1]) ?_
        rintro r67 w9 ⟨rfl, k1, k2, k3, k4⟩
        try dsimp only
        refine hq_F.en hf34_70 rfl rfl ?_
        exact ⟨k1.1, (F1.cov (by decide)).tr (k2.cov (by decide)), Or.inr ⟨rfl, 3, (tq_nx tp B M (tq_nx tp B M t)).2.1, by show ls_b (ls_look 3 (tq_nx tp B M t) NT) _ = _; rw [la, ls_br]; show ls_b (ls_look 0 (tq_nx tp B M (tq_nx tp B M t)) NT) _ = _; rw [lb, ls_br]; exact if_pos (decide_eq_true (sy_one.mp (Decidable.not_not.mp b59))), by rw [k3]; decide, k4⟩⟩
    · skip
      refine hq_F.st (s' := (33, _, _, _)) hf34_32 rfl rfl rfl rfl ?_
      refine hq_F.st (s' := (34, _, _, _)) hf34_33 rfl rfl rfl (hs_iln (pi_get_set _ _ _)) ?_
      refine hq_F.st (s' := (35, _, _, _)) hf34_34 rfl rfl rfl rfl ?_
      refine hq_F.st (s' := (38, _, _, _)) hf34_35 rfl rfl rfl (hs_icn (t := 40) (ci_nen (by omega)) rfl) ?_
      refine hq_F.st (s' := (39, _, _, _)) hf34_38 rfl rfl rfl rfl ?_
      refine hq_F.en hf34_39 rfl rfl ?_
      rcases q with ⟨q1, q2⟩ | ⟨q1, q2, q3⟩
      · exact ⟨h2.1, (F1.cov (by decide)).tr (F2.cov (by decide)), Or.inr ⟨rfl, 1, (tq_nx tp B M (tq_nx tp B M t)).2.1, by show ls_b (ls_look 3 (tq_nx tp B M t) NT) _ = _; rw [la, ls_br]; show ls_b (ls_look 0 (tq_nx tp B M (tq_nx tp B M t)) NT) _ = _; rw [ls_look_1 q1]; rfl, q2⟩⟩
      · exact ⟨h2.1, (F1.cov (by decide)).tr (F2.cov (by decide)), Or.inr ⟨rfl, 3, (tq_nx tp B M (tq_nx tp B M t)).2.1, by show ls_b (ls_look 3 (tq_nx tp B M t) NT) _ = _; rw [la, ls_br]; show ls_b (ls_look 0 (tq_nx tp B M (tq_nx tp B M t)) NT) _ = _; rw [ls_look_3 q1 q2]; rfl, q3⟩⟩
  · skip
    refine hq_F.st (s' := (13, _, _, _)) hf34_12 rfl rfl rfl rfl ?_
    refine hq_F.st (s' := (14, _, _, _)) hf34_13 rfl rfl rfl (hs_iln (pi_get_set _ _ _)) ?_
    refine hq_F.st (s' := (15, _, _, _)) hf34_14 rfl rfl rfl rfl ?_
    refine hq_F.st (s' := (18, _, _, _)) hf34_15 rfl rfl rfl (hs_icn (t := 20) (ci_nen (by omega)) rfl) ?_
    refine hq_F.st (s' := (19, _, _, _)) hf34_18 rfl rfl rfl rfl ?_
    refine hq_F.en hf34_19 rfl rfl ?_
    rcases q with ⟨q1, q2⟩ | ⟨q1, q2, q3⟩
    · exact ⟨h1.1, F1.cov (by decide), Or.inr ⟨rfl, 1, (tq_nx tp B M t).2.1, by show ls_b (ls_look 3 (tq_nx tp B M t) NT) _ = _; rw [ls_look_1 q1]; rfl, q2⟩⟩
    · exact ⟨h1.1, F1.cov (by decide), Or.inr ⟨rfl, 3, (tq_nx tp B M t).2.1, by show ls_b (ls_look 3 (tq_nx tp B M t) NT) _ = _; rw [ls_look_3 q1 q2]; rfl, q3⟩⟩
theorem cl_clerk {d B M : Nat} {tp : Nat → Nat} {w : pi_W} {σ : ls_S} (hO : CO tp B M w (tq_nx tp B M σ.1, σ.2)) (hI : ls_I σ) : hq_F (d + 3) sm33 (cl_P tp B M (ls_clerk tp B M σ) w) (0, lv_args 0 [.ref 10], [], w) := by
  obtain ⟨t, A, nr, NT⟩ := σ
  obtain ⟨h, hL⟩ := hO
  obtain ⟨ho, ⟨m0, m2, m3, m4⟩, mr, i3, i7⟩ := hI
  dsimp only at *
  have g0 : pi_get (lv_args 0 [.ref 10]) 0 = some (.ref 10) := rfl
  have kc0 : (((Int8.ofInt 56).toInt32)).toInt = 56 := by decide
  have kc1 : ((-1 : Int32)).toInt = (-1) := by decide
  have kc2 : ((0 : Int32)).toInt = 0 := by decide
  have kc3 : ((1 : Int32)).toInt = 1 := by decide
  have kc4 : ((Int32.ofInt (-1))).toInt = (-1) := by decide
  have kc5 : ((Int32.ofInt 0)).toInt = 0 := by decide
  have kc6 : ((Int32.ofInt 1)).toInt = 1 := by decide
  have kc7 : ((Int32.ofInt 3)).toInt = 3 := by decide
  have kc8 : ((Int32.ofInt 4)).toInt = 4 := by decide
  have kz := sy_z0
  refine hq_F.st (s' := (1, _, _, _)) hf33_0 rfl rfl rfl (hs_al g0) ?_
  refine hq_F.st (s' := (4, _, _, _)) hf33_1 rfl rfl rfl (hq_gf h.1 sh_10 sk_3_9 (hq_ref h.1 sh_10 (b := 1) rfl)) ?_
  refine hq_F.st (s' := (5, _, _, _)) hf33_4 rfl rfl rfl (hs_al g0) ?_
  refine hq_F.st (s' := (8, _, _, _)) hf33_5 rfl rfl rfl (hq_gf h.1 sh_10 sk_3_15 (hq_ref h.1 sh_10 (b := 7) rfl)) ?_
  refine hq_F.st (s' := (9, _, _, _)) hf33_8 rfl rfl rfl rfl ?_
  refine hq_F.call hf33_9 rfl rfl si_3_111 (by decide) (by decide) sz_108 (sy_argsV h.1 sh_1 rfl rfl rfl (Nat.le_of_ble_eq_true rfl) rfl (Nat.le_of_ble_eq_true rfl) rfl (by decide)) (cn_nh_s (d := d) (s := 4) h hL.1 ho (by decide)) (fun r w' q => by rcases q with ⟨q, _⟩ | ⟨_, q, _⟩; rw [q]; rw [q.1.1, h.1.1]) ?_
  rintro r9 w1 q
  try dsimp only
  rcases q with ⟨rfl, v1, rfl, n1, e1, f1⟩ | ⟨rfl, h1, F1, q⟩
  · obtain ⟨a, ha, rfl, la⟩ := ls_look_in ho (by omega) n1 e1 f1
    have ta : (Int32.ofNat a).toInt = (a : Int) := hn_t (by omega)
    refine hq_F.st (s' := (13, _, _, _)) hf33_12 rfl rfl rfl rfl ?_
    refine hq_F.st (s' := (14, _, _, _)) hf33_13 rfl rfl rfl (hs_iln (pi_get_set _ _ _)) ?_
    refine hq_F.st (s' := (15, _, _, _)) hf33_14 rfl rfl rfl rfl ?_
    refine hq_F.st (s' := (20, _, _, _)) hf33_15 rfl rfl rfl (hs_ic (ci_ne (by omega)) rfl) ?_
    refine hq_F.st (s' := (21, _, _, _)) hf33_20 rfl rfl rfl (hs_al (hg_nr g0 (by decide))) ?_
    refine hq_F.st (s' := (24, _, _, _)) hf33_21 rfl rfl rfl (hq_gf h.1 sh_10 sk_3_15 (hq_ref h.1 sh_10 (b := 7) rfl)) ?_
    refine hq_F.st (s' := (27, _, _, _)) hf33_24 rfl rfl rfl (hq_gf h.1 sh_7 sk_3_84 (hq_ref h.1 sh_7 (b := 8) rfl)) ?_
    refine hq_F.st (s' := (29, _, _, _)) hf33_27 rfl rfl rfl rfl ?_
    refine hq_F.st (s' := (30, _, _, _)) hf33_29 rfl rfl rfl (hs_iln (pi_get_set _ _ _)) ?_
    refine hq_F.st (s' := (31, _, _, _)) hf33_30 rfl rfl rfl rfl ?_
    rw [hn_k (n := a) hm_56]
    refine hq_F.call hf33_31 rfl rfl si_3_88 (by decide) (by decide) sz_159 (sy_argsS rfl rfl rfl (Nat.le_of_ble_eq_true rfl) (by decide) rfl (Nat.le_of_ble_eq_true rfl) (by decide)) (ca_at h.1 sh_8 (j := 56 + a) (by omega) (by omega)) (fun _ _ q => by rw [q.1]) ?_
    rintro r31 w1 ⟨rfl, rfl⟩
    try dsimp only
    have ga : gv w1 8 (56 + a) = A 7 a - 1 := hL.2.2.2 7 a (by decide) (by show a < 6; omega) (fun q => absurd q (by decide)) (fun _ => ha)
    rw [ga]
    refine hq_F.st (s' := (35, _, _, _)) hf33_34 rfl rfl rfl rfl ?_
    by_cases b35 : ((A 7 a - 1)).toInt = (-1)
    · skip
      refine hq_F.st (s' := (47, _, _, _)) hf33_35 rfl rfl rfl (hs_ic (ci_eq (by omega)) rfl) ?_
      refine hq_F.st (s' := (48, _, _, _)) hf33_47 rfl rfl rfl (hs_al (hg_nr g0 (by decide))) ?_
      refine hq_F.st (s' := (51, _, _, _)) hf33_48 rfl rfl rfl (hq_gf h.1 sh_10 sk_3_9 (hq_ref h.1 sh_10 (b := 1) rfl)) ?_
      refine hq_F.call hf33_51 rfl rfl si_3_68 (by decide) (by decide) sz_98 (sy_argsV h.1 sh_1 rfl rfl rfl (Nat.le_of_ble_eq_true rfl) rfl (Nat.le_of_ble_eq_true rfl) rfl (by decide)) (ct_adv (d := d) h (by have := n1.1; omega)) (fun _ _ q => by rw [q.2.1.1.1, h.1.1]) ?_
      rintro r51 w4 ⟨rfl, k5, k6⟩
      try dsimp only
      have hL4 := hL.fr k6 (by decide) (by decide)
      refine hq_F.st (s' := (55, _, _, _)) hf33_54 rfl rfl rfl (hs_al (hg_nr g0 (by decide))) ?_
      refine hq_F.st (s' := (58, _, _, _)) hf33_55 rfl rfl rfl (hq_gf k5.1 sh_10 sk_3_9 (hq_ref k5.1 sh_10 (b := 1) rfl)) ?_
      refine hq_F.st (s' := (59, _, _, _)) hf33_58 rfl rfl rfl (hs_al (hg_nr g0 (by decide))) ?_
      refine hq_F.st (s' := (62, _, _, _)) hf33_59 rfl rfl rfl (hq_gf k5.1 sh_10 sk_3_15 (hq_ref k5.1 sh_10 (b := 7) rfl)) ?_
      refine hq_F.st (s' := (63, _, _, _)) hf33_62 rfl rfl rfl rfl ?_
      refine hq_F.call hf33_63 rfl rfl si_3_111 (by decide) (by decide) sz_108 (sy_argsV k5.1 sh_1 rfl rfl rfl (Nat.le_of_ble_eq_true rfl) rfl (Nat.le_of_ble_eq_true rfl) rfl (by decide)) (cn_nh_s (d := d) (s := 4) k5 hL4.1 ho (by decide)) (fun r w' q => by rcases q with ⟨q, _⟩ | ⟨_, q, _⟩; rw [q]; rw [q.1.1, k5.1.1]) ?_
      rintro r63 w2 q
      try dsimp only
      rcases q with ⟨rfl, v2, rfl, n2, e2, f2⟩ | ⟨rfl, h2, F2, q⟩
      · obtain ⟨b, hb, rfl, lb⟩ := ls_look_in ho (by omega) n2 e2 f2
        have tb : (Int32.ofNat b).toInt = (b : Int) := hn_t (by omega)
        refine hq_F.st (s' := (67, _, _, _)) hf33_66 rfl rfl rfl rfl ?_
        refine hq_F.st (s' := (68, _, _, _)) hf33_67 rfl rfl rfl (hs_iln (pi_get_set _ _ _)) ?_
        refine hq_F.st (s' := (69, _, _, _)) hf33_68 rfl rfl rfl rfl ?_
        refine hq_F.st (s' := (74, _, _, _)) hf33_69 rfl rfl rfl (hs_ic (ci_ne (by omega)) rfl) ?_
        refine hq_F.st (s' := (75, _, _, _)) hf33_74 rfl rfl rfl (hs_iln (pi_get_set _ _ _)) ?_
        refine hq_F.st (s' := (76, _, _, _)) hf33_75 rfl rfl rfl (hs_iln (hg_ne (pi_get_set _ _ _) (by decide))) ?_
        by_cases b76 : ¬ ((Int32.ofNat b)).toInt = ((Int32.ofNat a)).toInt
        · skip
          refine hq_F.st (s' := (88, _, _, _)) hf33_76 rfl rfl rfl (hs_ic (ci_ne (by omega)) rfl) ?_
          refine hq_F.st (s' := (89, _, _, _)) hf33_88 rfl rfl rfl (hs_al (hg_nr (hg_nr g0 (by decide)) (by decide))) ?_
          refine hq_F.st (s' := (92, _, _, _)) hf33_89 rfl rfl rfl (hq_gf k5.1 sh_10 sk_3_15 (hq_ref k5.1 sh_10 (b := 7) rfl)) ?_
          refine hq_F.st (s' := (95, _, _, _)) hf33_92 rfl rfl rfl (hq_gf k5.1 sh_7 sk_3_84 (hq_ref k5.1 sh_7 (b := 8) rfl)) ?_
          refine hq_F.st (s' := (97, _, _, _)) hf33_95 rfl rfl rfl rfl ?_
          refine hq_F.st (s' := (98, _, _, _)) hf33_97 rfl rfl rfl (hs_iln (hg_ne (pi_get_set _ _ _) (by decide))) ?_
          refine hq_F.st (s' := (99, _, _, _)) hf33_98 rfl rfl rfl rfl ?_
          refine hq_F.st (s' := (100, _, _, _)) hf33_99 rfl rfl rfl (hs_iln (pi_get_set _ _ _)) ?_
          rw [hn_k (n := a) hm_56]
          refine hq_F.call hf33_100 rfl rfl si_3_121 (by decide) (by decide) sz_160 (sy_argsS rfl rfl rfl (Nat.le_of_ble_eq_true rfl) (by decide) rfl (Nat.le_of_ble_eq_true rfl) (by decide)) (ca_put k5.1 sh_8 (j := 56 + a) (by omega) (by omega) (fun q hq => by rw [sg_6 _ (by omega) (by omega)] at hq; cases hq; exact af_i32 _)) (fun _ _ q => by rw [q.2.1.1, k5.1.1]) ?_
          rintro r100 w3 ⟨rfl, hC3, hw3⟩
          try dsimp only
          have hT3 := k5.fr hC3 (wpF hw3) rfl
          have hL3 := hL4.put (by decide) (c0 := 7) (k0 := a) (x := Int32.ofNat (b + 1)) (by decide) (by show a < 6; omega) hw3 (by show Int32.ofNat b = Int32.ofNat (b + 1) - 1; rw [← hn_s]; exact (Int32.add_sub_cancel _ _).symm)
          refine hq_F.st (s' := (104, _, _, _)) hf33_103 rfl rfl rfl (hs_al (hg_nr (hg_nr g0 (by decide)) (by decide))) ?_
          refine hq_F.st (s' := (107, _, _, _)) hf33_104 rfl rfl rfl (hq_gf hC3 sh_10 sk_3_9 (hq_ref hC3 sh_10 (b := 1) rfl)) ?_
          refine hq_F.call hf33_107 rfl rfl si_3_68 (by decide) (by decide) sz_98 (sy_argsV hC3 sh_1 rfl rfl rfl (Nat.le_of_ble_eq_true rfl) rfl (Nat.le_of_ble_eq_true rfl) rfl (by decide)) (ct_adv (d := d) hT3 (by have := n2.1; omega)) (fun _ _ q => by rw [q.2.1.1.1, hC3.1]) ?_
          rintro r107 w8 ⟨rfl, k1, k2⟩
          try dsimp only
          refine hq_F.st (s' := (111, _, _, _)) hf33_110 rfl rfl rfl rfl ?_
          refine hq_F.en hf33_111 rfl rfl ?_
          exact ⟨k1.1, (k6.cov (by decide)).tr ((cl_w8 hw3 (by omega)).tr (k2.cov (by decide))), Or.inl ⟨rfl, (tq_nx tp B M (tq_nx tp B M (tq_nx tp B M t)), ld_u A 7 a (Int32.ofNat (b + 1)), nr, NT), by show ls_b (ls_look 4 (tq_nx tp B M t) NT) _ = _; rw [la, ls_br]; show (if ¬ A 7 a = 0 then _ else _) = _; rw [if_neg (Decidable.not_not.mpr (sy_m1.mp b35))]; show ls_b (ls_look 4 (tq_nx tp B M (tq_nx tp B M t)) NT) _ = _; rw [lb, ls_br]; exact if_neg (by omega), k1, hL3.fr k2 (by decide) (by decide)⟩⟩
        · skip
          refine hq_F.st (s' := (79, _, _, _)) hf33_76 rfl rfl rfl (hs_icn (t := 88) (ci_nen (by omega)) rfl) ?_
          refine hq_F.st (s' := (80, _, _, _)) hf33_79 rfl rfl rfl (hs_al (hg_nr (hg_nr g0 (by decide)) (by decide))) ?_
          refine hq_F.st (s' := (83, _, _, _)) hf33_80 rfl rfl rfl (hq_gf k5.1 sh_10 sk_3_9 (hq_ref k5.1 sh_10 (b := 1) rfl)) ?_
          refine hq_F.st (s' := (84, _, _, _)) hf33_83 rfl rfl rfl rfl ?_
          refine hq_F.call hf33_84 rfl rfl si_3_80 (by decide) (by decide) sz_103 (sy_argsV k5.1 sh_1 rfl rfl rfl (Nat.le_of_ble_eq_true rfl) rfl (Nat.le_of_ble_eq_true rfl) rfl (by decide)) (ct_ref k5 ((Int32.ofInt 3))) (fun _ _ q => by rw [q.2.1.1.1, k5.1.1]) ?_
          rintro r84 w9 ⟨rfl, k1, k2, k3, k4⟩
          try dsimp only
          refine hq_F.en hf33_87 rfl rfl ?_
          exact ⟨k1.1, (k6.cov (by decide)).tr (k2.cov (by decide)), Or.inr ⟨rfl, 3, (tq_nx tp B M (tq_nx tp B M t)).2.1, by show ls_b (ls_look 4 (tq_nx tp B M t) NT) _ = _; rw [la, ls_br]; show (if ¬ A 7 a = 0 then _ else _) = _; rw [if_neg (Decidable.not_not.mpr (sy_m1.mp b35))]; show ls_b (ls_look 4 (tq_nx tp B M (tq_nx tp B M t)) NT) _ = _; rw [lb, ls_br]; exact if_pos (by omega), by rw [k3]; decide, k4⟩⟩
      · skip
        refine hq_F.st (s' := (67, _, _, _)) hf33_66 rfl rfl rfl rfl ?_
        refine hq_F.st (s' := (68, _, _, _)) hf33_67 rfl rfl rfl (hs_iln (pi_get_set _ _ _)) ?_
        refine hq_F.st (s' := (69, _, _, _)) hf33_68 rfl rfl rfl rfl ?_
        refine hq_F.st (s' := (72, _, _, _)) hf33_69 rfl rfl rfl (hs_icn (t := 74) (ci_nen (by omega)) rfl) ?_
        refine hq_F.st (s' := (73, _, _, _)) hf33_72 rfl rfl rfl rfl ?_
        refine hq_F.en hf33_73 rfl rfl ?_
        rcases q with ⟨q1, q2⟩ | ⟨q1, q2, q3⟩
        · exact ⟨h2.1, (k6.cov (by decide)).tr (F2.cov (by decide)), Or.inr ⟨rfl, 1, (tq_nx tp B M (tq_nx tp B M t)).2.1, by show ls_b (ls_look 4 (tq_nx tp B M t) NT) _ = _; rw [la, ls_br]; show (if ¬ A 7 a = 0 then _ else _) = _; rw [if_neg (Decidable.not_not.mpr (sy_m1.mp b35))]; show ls_b (ls_look 4 (tq_nx tp B M (tq_nx tp B M t)) NT) _ = _; rw [ls_look_1 q1]; rfl, q2⟩⟩
        · exact ⟨h2.1, (k6.cov (by decide)).tr (F2.cov (by decide)), Or.inr ⟨rfl, 3, (tq_nx tp B M (tq_nx tp B M t)).2.1, by show ls_b (ls_look 4 (tq_nx tp B M t) NT) _ = _; rw [la, ls_br]; show (if ¬ A 7 a = 0 then _ else _) = _; rw [if_neg (Decidable.not_not.mpr (sy_m1.mp b35))]; show ls_b (ls_look 4 (tq_nx tp B M (tq_nx tp B M t)) NT) _ = _; rw [ls_look_3 q1 q2]; rfl, q3⟩⟩
    · skip
      refine hq_F.st (s' := (38, _, _, _)) hf33_35 rfl rfl rfl (hs_icn (t := 47) (ci_eqn (by omega)) rfl) ?_
      refine hq_F.st (s' := (39, _, _, _)) hf33_38 rfl rfl rfl (hs_al (hg_nr g0 (by decide))) ?_
      refine hq_F.st (s' := (42, _, _, _)) hf33_39 rfl rfl rfl (hq_gf h.1 sh_10 sk_3_9 (hq_ref h.1 sh_10 (b := 1) rfl)) ?_
      refine hq_F.st (s' := (43, _, _, _)) hf33_42 rfl rfl rfl rfl ?_
      refine hq_F.call hf33_43 rfl rfl si_3_80 (by decide) (by decide) sz_103 (sy_argsV h.1 sh_1 rfl rfl rfl (Nat.le_of_ble_eq_true rfl) rfl (Nat.le_of_ble_eq_true rfl) rfl (by decide)) (ct_ref h ((Int32.ofInt 3))) (fun _ _ q => by rw [q.2.1.1.1, h.1.1]) ?_
      rintro r43 w9 ⟨rfl, k1, k2, k3, k4⟩
      try dsimp only
      refine hq_F.en hf33_46 rfl rfl ?_
      exact ⟨k1.1, k2.cov (by decide), Or.inr ⟨rfl, 3, (tq_nx tp B M t).2.1, by show ls_b (ls_look 4 (tq_nx tp B M t) NT) _ = _; rw [la, ls_br]; exact if_pos (fun q => b35 (sy_m1.mpr q)), by rw [k3]; decide, k4⟩⟩
  · skip
    refine hq_F.st (s' := (13, _, _, _)) hf33_12 rfl rfl rfl rfl ?_
    refine hq_F.st (s' := (14, _, _, _)) hf33_13 rfl rfl rfl (hs_iln (pi_get_set _ _ _)) ?_
    refine hq_F.st (s' := (15, _, _, _)) hf33_14 rfl rfl rfl rfl ?_
    refine hq_F.st (s' := (18, _, _, _)) hf33_15 rfl rfl rfl (hs_icn (t := 20) (ci_nen (by omega)) rfl) ?_
    refine hq_F.st (s' := (19, _, _, _)) hf33_18 rfl rfl rfl rfl ?_
    refine hq_F.en hf33_19 rfl rfl ?_
    rcases q with ⟨q1, q2⟩ | ⟨q1, q2, q3⟩
    · exact ⟨h1.1, F1.cov (by decide), Or.inr ⟨rfl, 1, (tq_nx tp B M t).2.1, by show ls_b (ls_look 4 (tq_nx tp B M t) NT) _ = _; rw [ls_look_1 q1]; rfl, q2⟩⟩
    · exact ⟨h1.1, F1.cov (by decide), Or.inr ⟨rfl, 3, (tq_nx tp B M t).2.1, by show ls_b (ls_look 4 (tq_nx tp B M t) NT) _ = _; rw [ls_look_3 q1 q2]; rfl, q3⟩⟩
