/-! ===== the LINES in the class; by program ===== -/
theorem si_3_107 : pi_look pi_iT 3 107 = some (2, 109, 2, 552) := rfl
theorem si_3_111 : pi_look pi_iT 3 111 = some (2, 108, 2, 566) := rfl
theorem si_3_114 : pi_look pi_iT 3 114 = some (2, 16, 2, 567) := rfl
theorem si_3_117 : pi_look pi_iT 3 117 = some (2, 15, 2, 571) := rfl
theorem si_3_121 : pi_look pi_iT 3 121 = some (1, 160, 3, 575) := rfl
def sm15 : pi_M := (2, 3, none, false, mc_15)
def sm16 : pi_M := (2, 3, (some .boolean), false, mc_16)
def sm25 : pi_M := (3, 3, (some .boolean), false, mc_25)
set_option maxRecDepth 100000 in
theorem sz_15 : pi_mt[15]? = some (mn_15, prog_4_method_7_code, (2, 3, none, false, mc_15)) := rfl
set_option maxRecDepth 100000 in
theorem sz_16 : pi_mt[16]? = some (mn_16, prog_4_method_8_code, (2, 3, (some .boolean), false, mc_16)) := rfl
set_option maxRecDepth 100000 in
theorem sz_25 : pi_mt[25]? = some (mn_25, prog_5_method_6_code, (3, 3, (some .boolean), false, mc_25)) := rfl
theorem hf16_0 : pi_fetch mc_16 0 = some (.aload_n 0, 1) := rfl
theorem hf16_1 : pi_fetch mc_16 1 = some (.getfield 11, 3) := rfl
theorem hf16_4 : pi_fetch mc_16 4 = some (.bipush 6, 2) := rfl
theorem hf16_6 : pi_fetch mc_16 6 = some (.iload_n 1, 1) := rfl
theorem hf16_7 : pi_fetch mc_16 7 = some (.iadd, 1) := rfl
theorem hf16_8 : pi_fetch mc_16 8 = some (.invokestatic 35, 3) := rfl
theorem hf16_11 : pi_fetch mc_16 11 = some (.iload_n 2, 1) := rfl
theorem hf16_12 : pi_fetch mc_16 12 = some (.ishr, 1) := rfl
theorem hf16_13 : pi_fetch mc_16 13 = some (.iconst 1, 1) := rfl
theorem hf16_14 : pi_fetch mc_16 14 = some (.iand, 1) := rfl
theorem hf16_15 : pi_fetch mc_16 15 = some (.iconst 1, 1) := rfl
theorem hf16_16 : pi_fetch mc_16 16 = some (.if_icmp .ne 7, 3) := rfl
theorem hf16_19 : pi_fetch mc_16 19 = some (.iconst 1, 1) := rfl
theorem hf16_20 : pi_fetch mc_16 20 = some (.goto 4, 3) := rfl
theorem hf16_23 : pi_fetch mc_16 23 = some (.iconst 0, 1) := rfl
theorem hf16_24 : pi_fetch mc_16 24 = some (.ireturn, 1) := rfl
theorem hf15_0 : pi_fetch mc_15 0 = some (.aload_n 0, 1) := rfl
theorem hf15_1 : pi_fetch mc_15 1 = some (.getfield 11, 3) := rfl
theorem hf15_4 : pi_fetch mc_15 4 = some (.iload_n 1, 1) := rfl
theorem hf15_5 : pi_fetch mc_15 5 = some (.aload_n 0, 1) := rfl
theorem hf15_6 : pi_fetch mc_15 6 = some (.getfield 11, 3) := rfl
theorem hf15_9 : pi_fetch mc_15 9 = some (.iload_n 1, 1) := rfl
theorem hf15_10 : pi_fetch mc_15 10 = some (.invokestatic 35, 3) := rfl
theorem hf15_13 : pi_fetch mc_15 13 = some (.iload_n 2, 1) := rfl
theorem hf15_14 : pi_fetch mc_15 14 = some (.ior, 1) := rfl
theorem hf15_15 : pi_fetch mc_15 15 = some (.invokestatic 39, 3) := rfl
theorem hf15_18 : pi_fetch mc_15 18 = some (.return_, 1) := rfl
theorem hf25_0 : pi_fetch mc_25 0 = some (.aload_n 0, 1) := rfl
theorem hf25_1 : pi_fetch mc_25 1 = some (.getfield 9, 3) := rfl
theorem hf25_4 : pi_fetch mc_25 4 = some (.aload_n 0, 1) := rfl
theorem hf25_5 : pi_fetch mc_25 5 = some (.getfield 15, 3) := rfl
theorem hf25_8 : pi_fetch mc_25 8 = some (.iconst 0, 1) := rfl
theorem hf25_9 : pi_fetch mc_25 9 = some (.invokevirtual 107, 3) := rfl
theorem hf25_12 : pi_fetch mc_25 12 = some (.istore_n 1, 1) := rfl
theorem hf25_13 : pi_fetch mc_25 13 = some (.iload_n 1, 1) := rfl
theorem hf25_14 : pi_fetch mc_25 14 = some (.iconst (-1), 1) := rfl
theorem hf25_15 : pi_fetch mc_25 15 = some (.if_icmp .ne 5, 3) := rfl
theorem hf25_18 : pi_fetch mc_25 18 = some (.iconst 0, 1) := rfl
theorem hf25_19 : pi_fetch mc_25 19 = some (.ireturn, 1) := rfl
theorem hf25_20 : pi_fetch mc_25 20 = some (.aload_n 0, 1) := rfl
theorem hf25_21 : pi_fetch mc_25 21 = some (.getfield 9, 3) := rfl
theorem hf25_24 : pi_fetch mc_25 24 = some (.aload_n 0, 1) := rfl
theorem hf25_25 : pi_fetch mc_25 25 = some (.getfield 15, 3) := rfl
theorem hf25_28 : pi_fetch mc_25 28 = some (.iconst 0, 1) := rfl
theorem hf25_29 : pi_fetch mc_25 29 = some (.invokevirtual 111, 3) := rfl
theorem hf25_32 : pi_fetch mc_25 32 = some (.istore_n 2, 1) := rfl
theorem hf25_33 : pi_fetch mc_25 33 = some (.iload_n 2, 1) := rfl
theorem hf25_34 : pi_fetch mc_25 34 = some (.iconst (-1), 1) := rfl
theorem hf25_35 : pi_fetch mc_25 35 = some (.if_icmp .ne 5, 3) := rfl
theorem hf25_38 : pi_fetch mc_25 38 = some (.iconst 0, 1) := rfl
theorem hf25_39 : pi_fetch mc_25 39 = some (.ireturn, 1) := rfl
theorem hf25_40 : pi_fetch mc_25 40 = some (.iload_n 1, 1) := rfl
theorem hf25_41 : pi_fetch mc_25 41 = some (.iload_n 2, 1) := rfl
theorem hf25_42 : pi_fetch mc_25 42 = some (.if_icmp .eq 15, 3) := rfl
theorem hf25_45 : pi_fetch mc_25 45 = some (.aload_n 0, 1) := rfl
theorem hf25_46 : pi_fetch mc_25 46 = some (.getfield 15, 3) := rfl
theorem hf25_49 : pi_fetch mc_25 49 = some (.iload_n 1, 1) := rfl
theorem hf25_50 : pi_fetch mc_25 50 = some (.iload_n 2, 1) := rfl
theorem hf25_51 : pi_fetch mc_25 51 = some (.invokevirtual 114, 3) := rfl
theorem hf25_54 : pi_fetch mc_25 54 = some (.ifCond .eq 12, 3) := rfl
theorem hf25_57 : pi_fetch mc_25 57 = some (.aload_n 0, 1) := rfl
theorem hf25_58 : pi_fetch mc_25 58 = some (.getfield 9, 3) := rfl
theorem hf25_61 : pi_fetch mc_25 61 = some (.iconst 3, 1) := rfl
theorem hf25_62 : pi_fetch mc_25 62 = some (.invokevirtual 80, 3) := rfl
theorem hf25_65 : pi_fetch mc_25 65 = some (.ireturn, 1) := rfl
theorem hf25_66 : pi_fetch mc_25 66 = some (.aload_n 0, 1) := rfl
theorem hf25_67 : pi_fetch mc_25 67 = some (.getfield 15, 3) := rfl
theorem hf25_70 : pi_fetch mc_25 70 = some (.bipush 6, 2) := rfl
theorem hf25_72 : pi_fetch mc_25 72 = some (.iload_n 1, 1) := rfl
theorem hf25_73 : pi_fetch mc_25 73 = some (.iadd, 1) := rfl
theorem hf25_74 : pi_fetch mc_25 74 = some (.iconst 1, 1) := rfl
theorem hf25_75 : pi_fetch mc_25 75 = some (.iload_n 2, 1) := rfl
theorem hf25_76 : pi_fetch mc_25 76 = some (.ishl, 1) := rfl
theorem hf25_77 : pi_fetch mc_25 77 = some (.invokevirtual 117, 3) := rfl
theorem hf25_80 : pi_fetch mc_25 80 = some (.aload_n 0, 1) := rfl
theorem hf25_81 : pi_fetch mc_25 81 = some (.getfield 15, 3) := rfl
theorem hf25_84 : pi_fetch mc_25 84 = some (.bipush 6, 2) := rfl
theorem hf25_86 : pi_fetch mc_25 86 = some (.iload_n 2, 1) := rfl
theorem hf25_87 : pi_fetch mc_25 87 = some (.iadd, 1) := rfl
theorem hf25_88 : pi_fetch mc_25 88 = some (.iconst 1, 1) := rfl
theorem hf25_89 : pi_fetch mc_25 89 = some (.iload_n 1, 1) := rfl
theorem hf25_90 : pi_fetch mc_25 90 = some (.ishl, 1) := rfl
theorem hf25_91 : pi_fetch mc_25 91 = some (.invokevirtual 117, 3) := rfl
theorem hf25_94 : pi_fetch mc_25 94 = some (.aload_n 0, 1) := rfl
theorem hf25_95 : pi_fetch mc_25 95 = some (.getfield 15, 3) := rfl
theorem hf25_98 : pi_fetch mc_25 98 = some (.getfield 84, 3) := rfl
theorem hf25_101 : pi_fetch mc_25 101 = some (.iconst 1, 1) := rfl
theorem hf25_102 : pi_fetch mc_25 102 = some (.aload_n 0, 1) := rfl
theorem hf25_103 : pi_fetch mc_25 103 = some (.getfield 15, 3) := rfl
theorem hf25_106 : pi_fetch mc_25 106 = some (.getfield 84, 3) := rfl
theorem hf25_109 : pi_fetch mc_25 109 = some (.iconst 1, 1) := rfl
theorem hf25_110 : pi_fetch mc_25 110 = some (.invokestatic 88, 3) := rfl
theorem hf25_113 : pi_fetch mc_25 113 = some (.iconst 1, 1) := rfl
theorem hf25_114 : pi_fetch mc_25 114 = some (.iadd, 1) := rfl
theorem hf25_115 : pi_fetch mc_25 115 = some (.invokestatic 121, 3) := rfl
theorem hf25_118 : pi_fetch mc_25 118 = some (.aload_n 0, 1) := rfl
theorem hf25_119 : pi_fetch mc_25 119 = some (.getfield 9, 3) := rfl
theorem hf25_122 : pi_fetch mc_25 122 = some (.invokevirtual 68, 3) := rfl
theorem hf25_125 : pi_fetch mc_25 125 = some (.iconst 1, 1) := rfl
theorem hf25_126 : pi_fetch mc_25 126 = some (.ireturn, 1) := rfl
theorem sy_one {x : Int32} : x.toInt = 1 ↔ x = 1 := ⟨fun h => Int32.toInt_inj.mp (by rw [h]; decide), fun h => by rw [h]; decide⟩
theorem sg_6 : ∀ k, k < 62 → 6 ≤ k → af_seg sf_8 k = some (-2147483648, 2147483647) := by decide +kernel
theorem hn_6 : ((Int8.ofInt 6).toInt32) = Int32.ofNat 6 := by decide
theorem cl_hr {d a b : Nat} {w : pi_W} (hC : af_Conf aw_Sh w) (ha : a < 10) : hq_F (d + 1) sm16 (fun r w' => w' = w ∧ r = some (.int (tq_b (ls_bit (gv w 8 (6 + a)) b)))) (0, lv_args 0 [.ref 7, .int (Int32.ofNat a), .int (Int32.ofNat b)], [], w) := by
  have g0 : pi_get (lv_args 0 [.ref 7, .int (Int32.ofNat a), .int (Int32.ofNat b)]) 0 = some (.ref 7) := rfl
  have g1 : pi_get (lv_args 0 [.ref 7, .int (Int32.ofNat a), .int (Int32.ofNat b)]) 1 = some (.int (Int32.ofNat a)) := rfl
  have g2 : pi_get (lv_args 0 [.ref 7, .int (Int32.ofNat a), .int (Int32.ofNat b)]) 2 = some (.int (Int32.ofNat b)) := rfl
  have kc0 : (((Int8.ofInt 6).toInt32)).toInt = 6 := by decide
  have kc1 : ((Int32.ofInt 0)).toInt = 0 := by decide
  have kc2 : ((Int32.ofInt 1)).toInt = 1 := by decide
  have kz := sy_z0
  refine hq_F.st (s' := (1, _, _, _)) hf16_0 rfl rfl rfl (hs_al g0) ?_
  refine hq_F.st (s' := (4, _, _, _)) hf16_1 rfl rfl rfl (hq_gf hC sh_7 sk_2_11 (hq_ref hC sh_7 (b := 8) rfl)) ?_
  refine hq_F.st (s' := (6, _, _, _)) hf16_4 rfl rfl rfl rfl ?_
  refine hq_F.st (s' := (7, _, _, _)) hf16_6 rfl rfl rfl (hs_iln g1) ?_
  refine hq_F.st (s' := (8, _, _, _)) hf16_7 rfl rfl rfl rfl ?_
  rw [hn_k (n := a) hn_6]
  refine hq_F.call hf16_8 rfl rfl si_2_35 (by decide) (by decide) sz_159 (sy_argsS rfl rfl rfl (Nat.le_of_ble_eq_true rfl) (by decide) rfl (Nat.le_of_ble_eq_true rfl) (by decide)) (ca_at hC sh_8 (j := 6 + a) (by omega) (by omega)) (fun _ _ q => by rw [q.1]) ?_
  rintro r8 w ⟨rfl, rfl⟩
  try dsimp only
  refine hq_F.st (s' := (12, _, _, _)) hf16_11 rfl rfl rfl (hs_iln g2) ?_
  refine hq_F.st (s' := (13, _, _, _)) hf16_12 rfl rfl rfl rfl ?_
  refine hq_F.st (s' := (14, _, _, _)) hf16_13 rfl rfl rfl rfl ?_
  refine hq_F.st (s' := (15, _, _, _)) hf16_14 rfl rfl rfl rfl ?_
  refine hq_F.st (s' := (16, _, _, _)) hf16_15 rfl rfl rfl rfl ?_
  by_cases b16 : ¬ ((((gv w 8 (6 + a)) >>> ((Int32.ofNat b) &&& 31)) &&& (Int32.ofInt 1))).toInt = 1
  · skip
    refine hq_F.st (s' := (23, _, _, _)) hf16_16 rfl rfl rfl (hs_ic (ci_ne (by omega)) rfl) ?_
    refine hq_F.st (s' := (24, _, _, _)) hf16_23 rfl rfl rfl rfl ?_
    refine hq_F.en hf16_24 rfl rfl ?_
    exact ⟨rfl, by rw [show ls_bit (gv w 8 (6 + a)) b = false from decide_eq_false (fun q => b16 (sy_one.mpr q))]; rfl⟩
  · skip
    refine hq_F.st (s' := (19, _, _, _)) hf16_16 rfl rfl rfl (hs_icn (t := 23) (ci_nen (by omega)) rfl) ?_
    refine hq_F.st (s' := (20, _, _, _)) hf16_19 rfl rfl rfl rfl ?_
    refine hq_F.st (s' := (24, _, _, _)) hf16_20 rfl rfl rfl rfl ?_
    refine hq_F.en hf16_24 rfl rfl ?_
    exact ⟨rfl, by rw [show ls_bit (gv w 8 (6 + a)) b = true from decide_eq_true (sy_one.mp (Decidable.not_not.mp b16))]; rfl⟩
theorem cl_ab {d j : Nat} {w : pi_W} {x : Int32} (hC : af_Conf aw_Sh w) (h6 : 6 ≤ j) (h62 : j < 62) : hq_F (d + 1) sm15 (fun r w' => r = none ∧ af_Conf aw_Sh w' ∧ wr1 w 8 j (.int (gv w 8 j ||| x)) w') (0, lv_args 0 [.ref 7, .int (Int32.ofNat j), .int x], [], w) := by
  have g0 : pi_get (lv_args 0 [.ref 7, .int (Int32.ofNat j), .int x]) 0 = some (.ref 7) := rfl
  have g1 : pi_get (lv_args 0 [.ref 7, .int (Int32.ofNat j), .int x]) 1 = some (.int (Int32.ofNat j)) := rfl
  have g2 : pi_get (lv_args 0 [.ref 7, .int (Int32.ofNat j), .int x]) 2 = some (.int x) := rfl
  have kz := sy_z0
  refine hq_F.st (s' := (1, _, _, _)) hf15_0 rfl rfl rfl (hs_al g0) ?_
  refine hq_F.st (s' := (4, _, _, _)) hf15_1 rfl rfl rfl (hq_gf hC sh_7 sk_2_11 (hq_ref hC sh_7 (b := 8) rfl)) ?_
  refine hq_F.st (s' := (5, _, _, _)) hf15_4 rfl rfl rfl (hs_iln g1) ?_
  refine hq_F.st (s' := (6, _, _, _)) hf15_5 rfl rfl rfl (hs_al g0) ?_
  refine hq_F.st (s' := (9, _, _, _)) hf15_6 rfl rfl rfl (hq_gf hC sh_7 sk_2_11 (hq_ref hC sh_7 (b := 8) rfl)) ?_
  refine hq_F.st (s' := (10, _, _, _)) hf15_9 rfl rfl rfl (hs_iln g1) ?_
  refine hq_F.call hf15_10 rfl rfl si_2_35 (by decide) (by decide) sz_159 (sy_argsS rfl rfl rfl (Nat.le_of_ble_eq_true rfl) (by decide) rfl (Nat.le_of_ble_eq_true rfl) (by decide)) (ca_at hC sh_8 (j := j) (by omega) (by omega)) (fun _ _ q => by rw [q.1]) ?_
  rintro r10 w ⟨rfl, rfl⟩
  try dsimp only
  refine hq_F.st (s' := (14, _, _, _)) hf15_13 rfl rfl rfl (hs_iln g2) ?_
  refine hq_F.st (s' := (15, _, _, _)) hf15_14 rfl rfl rfl rfl ?_
  refine hq_F.call hf15_15 rfl rfl si_2_39 (by decide) (by decide) sz_160 (sy_argsS rfl rfl rfl (Nat.le_of_ble_eq_true rfl) (by decide) rfl (Nat.le_of_ble_eq_true rfl) (by decide)) (ca_put hC sh_8 (j := j) (by omega) (by omega) (fun q hq => by rw [sg_6 _ h62 h6] at hq; cases hq; exact af_i32 _)) (fun _ _ q => by rw [q.2.1.1, hC.1]) ?_
  rintro r15 w1 ⟨rfl, hC1, hw1⟩
  try dsimp only
  refine hq_F.en hf15_18 rfl rfl ?_
  exact ⟨rfl, hC1, hw1⟩
theorem cl_w8 {w w' : pi_W} {j : Nat} {x : Value} (hw : wr1 w 8 j x w') (hj : j < 170) : af_Fr cl_N w w' := hq_fr (wpF hw) (fun c i hc => by
  have hq := hq_cov1.mp hc
  unfold cl_N af_cov
  simp only [List.any_cons, List.any_nil, Bool.or_false, Bool.or_eq_true, Bool.and_eq_true, beq_iff_eq, Nat.ble_eq, Nat.blt_eq]
  omega)
theorem cl_road {d B M : Nat} {tp : Nat → Nat} {w : pi_W} {σ : ls_S} (hO : CO tp B M w σ) (hI : ls_I σ) (hr16 : σ.2.2.1 < 16) : hq_F (d + 4) sm25 (cl_P tp B M (ls_road tp B M σ) w) (0, lv_args 0 [.ref 10], [], w) := by
  obtain ⟨t, A, nr, NT⟩ := σ
  obtain ⟨h, hL⟩ := hO
  obtain ⟨ho, ⟨m0, m2, m3, m4⟩, mr, i3, i7⟩ := hI
  obtain ⟨hN, hcn, hnr, hR⟩ := id hL
  dsimp only at *
  have hC := h.1
  have g0 : pi_get (lv_args 0 [.ref 10]) 0 = some (.ref 10) := rfl
  have kc0 : (((Int8.ofInt 6).toInt32)).toInt = 6 := by decide
  have kc1 : ((-1 : Int32)).toInt = (-1) := by decide
  have kc2 : ((0 : Int32)).toInt = 0 := by decide
  have kc3 : ((1 : Int32)).toInt = 1 := by decide
  have kc4 : ((Int32.ofInt (-1))).toInt = (-1) := by decide
  have kc5 : ((Int32.ofInt 0)).toInt = 0 := by decide
  have kc6 : ((Int32.ofInt 1)).toInt = 1 := by decide
  have kc7 : ((Int32.ofInt 3)).toInt = 3 := by decide
  have kz := sy_z0
  refine hq_F.st (s' := (1, _, _, _)) hf25_0 rfl rfl rfl (hs_al g0) ?_
  refine hq_F.st (s' := (4, _, _, _)) hf25_1 rfl rfl rfl (hq_gf hC sh_10 sk_3_9 (hq_ref hC sh_10 (b := 1) rfl)) ?_
  refine hq_F.st (s' := (5, _, _, _)) hf25_4 rfl rfl rfl (hs_al g0) ?_
  refine hq_F.st (s' := (8, _, _, _)) hf25_5 rfl rfl rfl (hq_gf hC sh_10 sk_3_15 (hq_ref hC sh_10 (b := 7) rfl)) ?_
  refine hq_F.st (s' := (9, _, _, _)) hf25_8 rfl rfl rfl rfl ?_
  refine hq_F.call hf25_9 rfl rfl si_3_107 (by decide) (by decide) sz_109 (sy_argsV hC sh_1 rfl rfl rfl (Nat.le_of_ble_eq_true rfl) rfl (Nat.le_of_ble_eq_true rfl) rfl (by decide)) (cn_tk_s (d := d) (s := 0) h hN ho (by decide)) (fun r w' q => by rcases q with ⟨_, _, _, _, _, q, _⟩ | ⟨_, q, _⟩; rw [q.1.1, hC.1]; rw [q.1.1, hC.1]) ?_
  rintro r9 w1 q
  try dsimp only
  rcases q with ⟨v1, rfl, n1, e1, f1, h1, F1⟩ | ⟨rfl, h1, F1, q⟩
  · obtain ⟨a, ha, rfl, la⟩ := ls_look_in ho (by omega) n1 e1 f1
    have ta : (Int32.ofNat a).toInt = (a : Int) := hn_t (by omega)
    have hL1 := hL.fr F1 (by decide) (by decide)
    refine hq_F.st (s' := (13, _, _, _)) hf25_12 rfl rfl rfl rfl ?_
    refine hq_F.st (s' := (14, _, _, _)) hf25_13 rfl rfl rfl (hs_iln (pi_get_set _ _ _)) ?_
    refine hq_F.st (s' := (15, _, _, _)) hf25_14 rfl rfl rfl rfl ?_
    refine hq_F.st (s' := (20, _, _, _)) hf25_15 rfl rfl rfl (hs_ic (ci_ne (by omega)) rfl) ?_
    refine hq_F.st (s' := (21, _, _, _)) hf25_20 rfl rfl rfl (hs_al (hg_nr g0 (by decide))) ?_
    refine hq_F.st (s' := (24, _, _, _)) hf25_21 rfl rfl rfl (hq_gf h1.1 sh_10 sk_3_9 (hq_ref h1.1 sh_10 (b := 1) rfl)) ?_
    refine hq_F.st (s' := (25, _, _, _)) hf25_24 rfl rfl rfl (hs_al (hg_nr g0 (by decide))) ?_
    refine hq_F.st (s' := (28, _, _, _)) hf25_25 rfl rfl rfl (hq_gf h1.1 sh_10 sk_3_15 (hq_ref h1.1 sh_10 (b := 7) rfl)) ?_
    refine hq_F.st (s' := (29, _, _, _)) hf25_28 rfl rfl rfl rfl ?_
    refine hq_F.call hf25_29 rfl rfl si_3_111 (by decide) (by decide) sz_108 (sy_argsV h1.1 sh_1 rfl rfl rfl (Nat.le_of_ble_eq_true rfl) rfl (Nat.le_of_ble_eq_true rfl) rfl (by decide)) (cn_nh_s (d := d + 1) (s := 0) h1 hL1.1 ho (by decide)) (fun r w' q => by rcases q with ⟨q, _⟩ | ⟨_, q, _⟩; rw [q]; rw [q.1.1, h1.1.1]) ?_
    rintro r29 w2 q
    try dsimp only
    rcases q with ⟨rfl, v2, rfl, n2, e2, f2⟩ | ⟨rfl, h2, F2, q⟩
    · obtain ⟨b, hb, rfl, lb⟩ := ls_look_in ho (by omega) n2 e2 f2
      have tb : (Int32.ofNat b).toInt = (b : Int) := hn_t (by omega)
      refine hq_F.st (s' := (33, _, _, _)) hf25_32 rfl rfl rfl rfl ?_
      refine hq_F.st (s' := (34, _, _, _)) hf25_33 rfl rfl rfl (hs_iln (pi_get_set _ _ _)) ?_
      refine hq_F.st (s' := (35, _, _, _)) hf25_34 rfl rfl rfl rfl ?_
      refine hq_F.st (s' := (40, _, _, _)) hf25_35 rfl rfl rfl (hs_ic (ci_ne (by omega)) rfl) ?_
      refine hq_F.st (s' := (41, _, _, _)) hf25_40 rfl rfl rfl (hs_iln (hg_ne (pi_get_set _ _ _) (by decide))) ?_
      refine hq_F.st (s' := (42, _, _, _)) hf25_41 rfl rfl rfl (hs_iln (pi_get_set _ _ _)) ?_
      by_cases b42 : ((Int32.ofNat a)).toInt = ((Int32.ofNat b)).toInt
      · skip
        refine hq_F.st (s' := (57, _, _, _)) hf25_42 rfl rfl rfl (hs_ic (ci_eq (by omega)) rfl) ?_
        refine hq_F.st (s' := (58, _, _, _)) hf25_57 rfl rfl rfl (hs_al (hg_nr (hg_nr g0 (by decide)) (by decide))) ?_
        refine hq_F.st (s' := (61, _, _, _)) hf25_58 rfl rfl rfl (hq_gf h1.1 sh_10 sk_3_9 (hq_ref h1.1 sh_10 (b := 1) rfl)) ?_
        refine hq_F.st (s' := (62, _, _, _)) hf25_61 rfl rfl rfl rfl ?_
        refine hq_F.call hf25_62 rfl rfl si_3_80 (by decide) (by decide) sz_103 (sy_argsV h1.1 sh_1 rfl rfl rfl (Nat.le_of_ble_eq_true rfl) rfl (Nat.le_of_ble_eq_true rfl) rfl (by decide)) (ct_ref h1 ((Int32.ofInt 3))) (fun _ _ q => by rw [q.2.1.1.1, h1.1.1]) ?_
        rintro r62 w9 ⟨rfl, k1, k2, k3, k4⟩
        try dsimp only
        refine hq_F.en hf25_65 rfl rfl ?_
        exact ⟨k1.1, (F1.cov (by decide)).tr (k2.cov (by decide)), Or.inr ⟨rfl, 3, (tq_nx tp B M t).2.1, by show ls_b (ls_look 0 t NT) _ = _; rw [la, ls_br]; show ls_b (ls_look 0 (tq_nx tp B M t) NT) _ = _; rw [lb, ls_br]; exact if_pos (Or.inl (by omega)), by rw [k3]; decide, k4⟩⟩
      · skip
        refine hq_F.st (s' := (45, _, _, _)) hf25_42 rfl rfl rfl (hs_icn (t := 57) (ci_eqn (by omega)) rfl) ?_
        refine hq_F.st (s' := (46, _, _, _)) hf25_45 rfl rfl rfl (hs_al (hg_nr (hg_nr g0 (by decide)) (by decide))) ?_
        refine hq_F.st (s' := (49, _, _, _)) hf25_46 rfl rfl rfl (hq_gf h1.1 sh_10 sk_3_15 (hq_ref h1.1 sh_10 (b := 7) rfl)) ?_
        refine hq_F.st (s' := (50, _, _, _)) hf25_49 rfl rfl rfl (hs_iln (hg_ne (pi_get_set _ _ _) (by decide))) ?_
        refine hq_F.st (s' := (51, _, _, _)) hf25_50 rfl rfl rfl (hs_iln (pi_get_set _ _ _)) ?_
        refine hq_F.call hf25_51 rfl rfl si_3_114 (by decide) (by decide) sz_16 (sy_argsV h1.1 sh_7 rfl rfl rfl (Nat.le_of_ble_eq_true rfl) rfl (Nat.le_of_ble_eq_true rfl) rfl (by decide)) (cl_hr (d := d + 2) (a := a) (b := b) h1.1 (by omega)) (fun _ _ q => by rw [q.1]) ?_
        rintro r51 w2 ⟨rfl, rfl⟩
        try dsimp only
        have ga : gv w2 8 (6 + a) = A 0 a := hL1.2.2.2 0 a (by decide) (by show a < 10; omega) (fun q => absurd q (by decide)) (fun q => absurd q (by decide))
        rw [ga]
        cases hbit : ls_bit (A 0 a) b
        · rw [show tq_b false = (0 : Int32) from rfl]
          refine hq_F.st (s' := (66, _, _, _)) hf25_54 rfl rfl rfl (hs_if (ci_eq (by omega)) rfl) ?_
          refine hq_F.st (s' := (67, _, _, _)) hf25_66 rfl rfl rfl (hs_al (hg_nr (hg_nr g0 (by decide)) (by decide))) ?_
          refine hq_F.st (s' := (70, _, _, _)) hf25_67 rfl rfl rfl (hq_gf h1.1 sh_10 sk_3_15 (hq_ref h1.1 sh_10 (b := 7) rfl)) ?_
          refine hq_F.st (s' := (72, _, _, _)) hf25_70 rfl rfl rfl rfl ?_
          refine hq_F.st (s' := (73, _, _, _)) hf25_72 rfl rfl rfl (hs_iln (hg_ne (pi_get_set _ _ _) (by decide))) ?_
          refine hq_F.st (s' := (74, _, _, _)) hf25_73 rfl rfl rfl rfl ?_
          refine hq_F.st (s' := (75, _, _, _)) hf25_74 rfl rfl rfl rfl ?_
          refine hq_F.st (s' := (76, _, _, _)) hf25_75 rfl rfl rfl (hs_iln (pi_get_set _ _ _)) ?_
          refine hq_F.st (s' := (77, _, _, _)) hf25_76 rfl rfl rfl rfl ?_
          rw [hn_k (n := a) hn_6]
          refine hq_F.call hf25_77 rfl rfl si_3_117 (by decide) (by decide) sz_15 (sy_argsV h1.1 sh_7 rfl rfl rfl (Nat.le_of_ble_eq_true rfl) rfl (Nat.le_of_ble_eq_true rfl) rfl (by decide)) (cl_ab (d := d + 2) (j := 6 + a) h1.1 (by omega) (by omega)) (fun _ _ q => by rw [q.2.1.1, h1.1.1]) ?_
          rintro r77 w3 ⟨rfl, hC3, hw3⟩
          try dsimp only
          have hT3 := h1.fr hC3 (wpF hw3) rfl
          have hL3 := hL1.put (by decide) (c0 := 0) (k0 := a) (x := ls_or (A 0 a) b) (by decide) (by show a < 10; omega) hw3 (by rw [ga]; rfl)
          have gb : gv w3 8 (6 + b) = (ld_u A 0 a (ls_or (A 0 a) b)) 0 b := hL3.2.2.2 0 b (by decide) (by show b < 10; omega) (fun q => absurd q (by decide)) (fun q => absurd q (by decide))
          refine hq_F.st (s' := (81, _, _, _)) hf25_80 rfl rfl rfl (hs_al (hg_nr (hg_nr g0 (by decide)) (by decide))) ?_
          refine hq_F.st (s' := (84, _, _, _)) hf25_81 rfl rfl rfl (hq_gf hC3 sh_10 sk_3_15 (hq_ref hC3 sh_10 (b := 7) rfl)) ?_
          refine hq_F.st (s' := (86, _, _, _)) hf25_84 rfl rfl rfl rfl ?_
          refine hq_F.st (s' := (87, _, _, _)) hf25_86 rfl rfl rfl (hs_iln (pi_get_set _ _ _)) ?_
          refine hq_F.st (s' := (88, _, _, _)) hf25_87 rfl rfl rfl rfl ?_
          refine hq_F.st (s' := (89, _, _, _)) hf25_88 rfl rfl rfl rfl ?_
          refine hq_F.st (s' := (90, _, _, _)) hf25_89 rfl rfl rfl (hs_iln (hg_ne (pi_get_set _ _ _) (by decide))) ?_
          refine hq_F.st (s' := (91, _, _, _)) hf25_90 rfl rfl rfl rfl ?_
          rw [hn_k (n := b) hn_6]
          refine hq_F.call hf25_91 rfl rfl si_3_117 (by decide) (by decide) sz_15 (sy_argsV hC3 sh_7 rfl rfl rfl (Nat.le_of_ble_eq_true rfl) rfl (Nat.le_of_ble_eq_true rfl) rfl (by decide)) (cl_ab (d := d + 2) (j := 6 + b) hC3 (by omega) (by omega)) (fun _ _ q => by rw [q.2.1.1, hC3.1]) ?_
          rintro r91 w4 ⟨rfl, hC4, hw4⟩
          try dsimp only
          have hT4 := hT3.fr hC4 (wpF hw4) rfl
          have hL4 := hL3.put (by decide) (c0 := 0) (k0 := b) (x := ls_or ((ld_u A 0 a (ls_or (A 0 a) b)) 0 b) a) (by decide) (by show b < 10; omega) hw4 (by rw [gb]; rfl)
          have e4 : (gv w4 8 1 + Int32.ofInt 1).toInt = ((nr + 1 : Nat) : Int) := sy_inc hL4.2.2.1 (by omega)
          refine hq_F.st (s' := (95, _, _, _)) hf25_94 rfl rfl rfl (hs_al (hg_nr (hg_nr g0 (by decide)) (by decide))) ?_
          refine hq_F.st (s' := (98, _, _, _)) hf25_95 rfl rfl rfl (hq_gf hC4 sh_10 sk_3_15 (hq_ref hC4 sh_10 (b := 7) rfl)) ?_
          refine hq_F.st (s' := (101, _, _, _)) hf25_98 rfl rfl rfl (hq_gf hC4 sh_7 sk_3_84 (hq_ref hC4 sh_7 (b := 8) rfl)) ?_
          refine hq_F.st (s' := (102, _, _, _)) hf25_101 rfl rfl rfl rfl ?_
          refine hq_F.st (s' := (103, _, _, _)) hf25_102 rfl rfl rfl (hs_al (hg_nr (hg_nr g0 (by decide)) (by decide))) ?_
          refine hq_F.st (s' := (106, _, _, _)) hf25_103 rfl rfl rfl (hq_gf hC4 sh_10 sk_3_15 (hq_ref hC4 sh_10 (b := 7) rfl)) ?_
          refine hq_F.st (s' := (109, _, _, _)) hf25_106 rfl rfl rfl (hq_gf hC4 sh_7 sk_3_84 (hq_ref hC4 sh_7 (b := 8) rfl)) ?_
          refine hq_F.st (s' := (110, _, _, _)) hf25_109 rfl rfl rfl rfl ?_
          refine hq_F.call hf25_110 rfl rfl si_3_88 (by decide) (by decide) sz_159 (sy_argsS rfl rfl rfl (Nat.le_of_ble_eq_true rfl) (by decide) rfl (Nat.le_of_ble_eq_true rfl) (by decide)) (ca_at hC4 sh_8 (j := 1) (by omega) (by omega)) (fun _ _ q => by rw [q.1]) ?_
          rintro r110 w4 ⟨rfl, rfl⟩
          try dsimp only
          refine hq_F.st (s' := (114, _, _, _)) hf25_113 rfl rfl rfl rfl ?_
          refine hq_F.st (s' := (115, _, _, _)) hf25_114 rfl rfl rfl rfl ?_
          refine hq_F.call hf25_115 rfl rfl si_3_121 (by decide) (by decide) sz_160 (sy_argsS rfl rfl rfl (Nat.le_of_ble_eq_true rfl) (by decide) rfl (Nat.le_of_ble_eq_true rfl) (by decide)) (ca_put hC4 sh_8 (j := 1) (by omega) (by omega) (fun q hq => by cases hq; dsimp only; omega)) (fun _ _ q => by rw [q.2.1.1, hC4.1]) ?_
          rintro r115 w5 ⟨rfl, hC5, hw5⟩
          try dsimp only
          have hT5 := hT4.fr hC5 (wpF hw5) rfl
          have hL5 := hL4.road (by decide) hw5 e4
          refine hq_F.st (s' := (119, _, _, _)) hf25_118 rfl rfl rfl (hs_al (hg_nr (hg_nr g0 (by decide)) (by decide))) ?_
          refine hq_F.st (s' := (122, _, _, _)) hf25_119 rfl rfl rfl (hq_gf hC5 sh_10 sk_3_9 (hq_ref hC5 sh_10 (b := 1) rfl)) ?_
          refine hq_F.call hf25_122 rfl rfl si_3_68 (by decide) (by decide) sz_98 (sy_argsV hC5 sh_1 rfl rfl rfl (Nat.le_of_ble_eq_true rfl) rfl (Nat.le_of_ble_eq_true rfl) rfl (by decide)) (ct_adv (d := d + 1) hT5 (by have := n2.1; omega)) (fun _ _ q => by rw [q.2.1.1.1, hC5.1]) ?_
          rintro r122 w8 ⟨rfl, k1, k2⟩
          try dsimp only
          refine hq_F.st (s' := (126, _, _, _)) hf25_125 rfl rfl rfl rfl ?_
          refine hq_F.en hf25_126 rfl rfl ?_
          exact ⟨k1.1, (F1.cov (by decide)).tr ((cl_w8 hw3 (by omega)).tr ((cl_w8 hw4 (by omega)).tr ((cl_w8 hw5 (by omega)).tr (k2.cov (by decide))))), Or.inl ⟨rfl, (tq_nx tp B M (tq_nx tp B M t), ld_u (ld_u A 0 a (ls_or (A 0 a) b)) 0 b (ls_or ((ld_u A 0 a (ls_or (A 0 a) b)) 0 b) a), nr + 1, NT), by show ls_b (ls_look 0 t NT) _ = _; rw [la, ls_br]; show ls_b (ls_look 0 (tq_nx tp B M t) NT) _ = _; rw [lb, ls_br]; exact if_neg (by rintro (q | q); omega; rw [hbit] at q; cases q), k1, hL5.fr k2 (by decide) (by decide)⟩⟩
        · rw [show tq_b true = (1 : Int32) from rfl]
          refine hq_F.st (s' := (57, _, _, _)) hf25_54 rfl rfl rfl (hs_ifn (t := 66) (ci_eqn (by omega)) rfl) ?_
          refine hq_F.st (s' := (58, _, _, _)) hf25_57 rfl rfl rfl (hs_al (hg_nr (hg_nr g0 (by decide)) (by decide))) ?_
          refine hq_F.st (s' := (61, _, _, _)) hf25_58 rfl rfl rfl (hq_gf h1.1 sh_10 sk_3_9 (hq_ref h1.1 sh_10 (b := 1) rfl)) ?_
          refine hq_F.st (s' := (62, _, _, _)) hf25_61 rfl rfl rfl rfl ?_
          refine hq_F.call hf25_62 rfl rfl si_3_80 (by decide) (by decide) sz_103 (sy_argsV h1.1 sh_1 rfl rfl rfl (Nat.le_of_ble_eq_true rfl) rfl (Nat.le_of_ble_eq_true rfl) rfl (by decide)) (ct_ref h1 ((Int32.ofInt 3))) (fun _ _ q => by rw [q.2.1.1.1, h1.1.1]) ?_
          rintro r62 w9 ⟨rfl, k1, k2, k3, k4⟩
          try dsimp only
          refine hq_F.en hf25_65 rfl rfl ?_
          exact ⟨k1.1, (F1.cov (by decide)).tr (k2.cov (by decide)), Or.inr ⟨rfl, 3, (tq_nx tp B M t).2.1, by show ls_b (ls_look 0 t NT) _ = _; rw [la, ls_br]; show ls_b (ls_look 0 (tq_nx tp B M t) NT) _ = _; rw [lb, ls_br]; exact if_pos (Or.inr hbit), by rw [k3]; decide, k4⟩⟩
    · skip
      refine hq_F.st (s' := (33, _, _, _)) hf25_32 rfl rfl rfl rfl ?_
      refine hq_F.st (s' := (34, _, _, _)) hf25_33 rfl rfl rfl (hs_iln (pi_get_set _ _ _)) ?_
      refine hq_F.st (s' := (35, _, _, _)) hf25_34 rfl rfl rfl rfl ?_
      refine hq_F.st (s' := (38, _, _, _)) hf25_35 rfl rfl rfl (hs_icn (t := 40) (ci_nen (by omega)) rfl) ?_
      refine hq_F.st (s' := (39, _, _, _)) hf25_38 rfl rfl rfl rfl ?_
      refine hq_F.en hf25_39 rfl rfl ?_
      rcases q with ⟨q1, q2⟩ | ⟨q1, q2, q3⟩
      · exact ⟨h2.1, (F1.cov (by decide)).tr (F2.cov (by decide)), Or.inr ⟨rfl, 1, (tq_nx tp B M t).2.1, by show ls_b (ls_look 0 t NT) _ = _; rw [la, ls_br]; show ls_b (ls_look 0 (tq_nx tp B M t) NT) _ = _; rw [ls_look_1 q1]; rfl, q2⟩⟩
      · exact ⟨h2.1, (F1.cov (by decide)).tr (F2.cov (by decide)), Or.inr ⟨rfl, 3, (tq_nx tp B M t).2.1, by show ls_b (ls_look 0 t NT) _ = _; rw [la, ls_br]; show ls_b (ls_look 0 (tq_nx tp B M t) NT) _ = _; rw [ls_look_3 q1 q2]; rfl, q3⟩⟩
  · skip
    refine hq_F.st (s' := (13, _, _, _)) hf25_12 rfl rfl rfl rfl ?_
    refine hq_F.st (s' := (14, _, _, _)) hf25_13 rfl rfl rfl (hs_iln (pi_get_set _ _ _)) ?_
    refine hq_F.st (s' := (15, _, _, _)) hf25_14 rfl rfl rfl rfl ?_
    refine hq_F.st (s' := (18, _, _, _)) hf25_15 rfl rfl rfl (hs_icn (t := 20) (ci_nen (by omega)) rfl) ?_
    refine hq_F.st (s' := (19, _, _, _)) hf25_18 rfl rfl rfl rfl ?_
    refine hq_F.en hf25_19 rfl rfl ?_
    rcases q with ⟨q1, q2⟩ | ⟨q1, q2, q3⟩
    · exact ⟨h1.1, F1.cov (by decide), Or.inr ⟨rfl, 1, t.2.1, by show ls_b (ls_look 0 t NT) _ = _; rw [ls_look_1 q1]; rfl, q2⟩⟩
    · exact ⟨h1.1, F1.cov (by decide), Or.inr ⟨rfl, 3, t.2.1, by show ls_b (ls_look 0 t NT) _ = _; rw [ls_look_3 q1 q2]; rfl, q3⟩⟩
