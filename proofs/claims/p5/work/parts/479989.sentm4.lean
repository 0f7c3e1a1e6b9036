/-! ===== sentence on both sides; by program ===== -/
theorem sk_10_65 : pi_look pi_fT 10 65 = some (10, 8, 409) := rfl
theorem sk_10_73 : pi_look pi_fT 10 73 = some (10, 9, 410) := rfl
theorem si_10_284 : pi_look pi_iT 10 284 = some (2, 88, 0, 1042) := rfl
theorem si_10_287 : pi_look pi_iT 10 287 = some (2, 81, 1, 1078) := rfl
theorem si_8_27 : pi_look pi_iT 8 27 = some (2, 80, 0, 1046) := rfl
theorem si_8_32 : pi_look pi_iT 8 32 = some (2, 97, 1, 1047) := rfl
def sm147 : pi_M := (10, 2, (some .int), false, mc_147)
def sm278 : pi_M := (11, 3, (some .int), false, mc_278)
set_option maxRecDepth 100000 in
theorem sz_147 : pi_mt[147]? = some (mn_147, prog_1_method_39_code, (10, 2, (some .int), false, mc_147)) := rfl
set_option maxRecDepth 100000 in
theorem sz_278 : pi_mt[278]? = some (mn_278, prog_13_method_118_code, (11, 3, (some .int), false, mc_278)) := rfl
theorem hj147_0 : pi_fetch mc_147 0 = some (.aload_n 0, 1) := rfl
theorem hj147_1 : pi_fetch mc_147 1 = some (.getfield 73, 3) := rfl
theorem hj147_4 : pi_fetch mc_147 4 = some (.invokevirtual 284, 3) := rfl
theorem hj147_7 : pi_fetch mc_147 7 = some (.istore_n 1, 1) := rfl
theorem hj147_8 : pi_fetch mc_147 8 = some (.aload_n 0, 1) := rfl
theorem hj147_9 : pi_fetch mc_147 9 = some (.getfield 12, 3) := rfl
theorem hj147_12 : pi_fetch mc_147 12 = some (.iconst 0, 1) := rfl
theorem hj147_13 : pi_fetch mc_147 13 = some (.putfield 118, 3) := rfl
theorem hj147_16 : pi_fetch mc_147 16 = some (.iload_n 1, 1) := rfl
theorem hj147_17 : pi_fetch mc_147 17 = some (.iconst (-1), 1) := rfl
theorem hj147_18 : pi_fetch mc_147 18 = some (.if_icmp .ne 13, 3) := rfl
theorem hj147_21 : pi_fetch mc_147 21 = some (.iconst (-1), 1) := rfl
theorem hj147_22 : pi_fetch mc_147 22 = some (.aload_n 0, 1) := rfl
theorem hj147_23 : pi_fetch mc_147 23 = some (.getfield 12, 3) := rfl
theorem hj147_26 : pi_fetch mc_147 26 = some (.getfield 129, 3) := rfl
theorem hj147_29 : pi_fetch mc_147 29 = some (.isub, 1) := rfl
theorem hj147_30 : pi_fetch mc_147 30 = some (.ireturn, 1) := rfl
theorem hj147_31 : pi_fetch mc_147 31 = some (.aload_n 0, 1) := rfl
theorem hj147_32 : pi_fetch mc_147 32 = some (.getfield 61, 3) := rfl
theorem hj147_35 : pi_fetch mc_147 35 = some (.aload_n 0, 1) := rfl
theorem hj147_36 : pi_fetch mc_147 36 = some (.getfield 65, 3) := rfl
theorem hj147_39 : pi_fetch mc_147 39 = some (.invokevirtual 287, 3) := rfl
theorem hj147_42 : pi_fetch mc_147 42 = some (.iload_n 1, 1) := rfl
theorem hj147_43 : pi_fetch mc_147 43 = some (.ireturn, 1) := rfl
theorem hj278_0 : pi_fetch mc_278 0 = some (.aload_n 0, 1) := rfl
theorem hj278_1 : pi_fetch mc_278 1 = some (.iconst 0, 1) := rfl
theorem hj278_2 : pi_fetch mc_278 2 = some (.putfield 1, 3) := rfl
theorem hj278_5 : pi_fetch mc_278 5 = some (.aload_n 0, 1) := rfl
theorem hj278_6 : pi_fetch mc_278 6 = some (.sipush 200, 3) := rfl
theorem hj278_9 : pi_fetch mc_278 9 = some (.invokevirtual 232, 3) := rfl
theorem hj278_12 : pi_fetch mc_278 12 = some (.aload_n 0, 1) := rfl
theorem hj278_13 : pi_fetch mc_278 13 = some (.iconst 0, 1) := rfl
theorem hj278_14 : pi_fetch mc_278 14 = some (.putfield 169, 3) := rfl
theorem hj278_17 : pi_fetch mc_278 17 = some (.aload_n 0, 1) := rfl
theorem hj278_18 : pi_fetch mc_278 18 = some (.iconst 0, 1) := rfl
theorem hj278_19 : pi_fetch mc_278 19 = some (.putfield 424, 3) := rfl
theorem hj278_22 : pi_fetch mc_278 22 = some (.aload_n 0, 1) := rfl
theorem hj278_23 : pi_fetch mc_278 23 = some (.iconst 0, 1) := rfl
theorem hj278_24 : pi_fetch mc_278 24 = some (.putfield 439, 3) := rfl
theorem hj278_27 : pi_fetch mc_278 27 = some (.aload_n 0, 1) := rfl
theorem hj278_28 : pi_fetch mc_278 28 = some (.iconst 0, 1) := rfl
theorem hj278_29 : pi_fetch mc_278 29 = some (.putfield 427, 3) := rfl
theorem hj278_32 : pi_fetch mc_278 32 = some (.aload_n 0, 1) := rfl
theorem hj278_33 : pi_fetch mc_278 33 = some (.iconst 1, 1) := rfl
theorem hj278_34 : pi_fetch mc_278 34 = some (.putfield 433, 3) := rfl
theorem hj278_37 : pi_fetch mc_278 37 = some (.aload_n 0, 1) := rfl
theorem hj278_38 : pi_fetch mc_278 38 = some (.iconst 0, 1) := rfl
theorem hj278_39 : pi_fetch mc_278 39 = some (.putfield 442, 3) := rfl
theorem hj278_42 : pi_fetch mc_278 42 = some (.aload_n 0, 1) := rfl
theorem hj278_43 : pi_fetch mc_278 43 = some (.invokevirtual 181, 3) := rfl
theorem hj278_46 : pi_fetch mc_278 46 = some (.iconst 1, 1) := rfl
theorem hj278_47 : pi_fetch mc_278 47 = some (.istore_n 1, 1) := rfl
theorem hj278_48 : pi_fetch mc_278 48 = some (.iload_n 1, 1) := rfl
theorem hj278_49 : pi_fetch mc_278 49 = some (.ifCond .eq 83, 3) := rfl
theorem hj278_52 : pi_fetch mc_278 52 = some (.aload_n 0, 1) := rfl
theorem hj278_53 : pi_fetch mc_278 53 = some (.getfield 442, 3) := rfl
theorem hj278_56 : pi_fetch mc_278 56 = some (.ifCond .eq 45, 3) := rfl
theorem hj278_59 : pi_fetch mc_278 59 = some (.aload_n 0, 1) := rfl
theorem hj278_60 : pi_fetch mc_278 60 = some (.getfield 152, 3) := rfl
theorem hj278_63 : pi_fetch mc_278 63 = some (.ifCond .ne 38, 3) := rfl
theorem hj278_66 : pi_fetch mc_278 66 = some (.aload_n 0, 1) := rfl
theorem hj278_67 : pi_fetch mc_278 67 = some (.invokevirtual 445, 3) := rfl
theorem hj278_70 : pi_fetch mc_278 70 = some (.aload_n 0, 1) := rfl
theorem hj278_71 : pi_fetch mc_278 71 = some (.bipush 22, 2) := rfl
theorem hj278_73 : pi_fetch mc_278 73 = some (.invokevirtual 448, 3) := rfl
theorem hj278_76 : pi_fetch mc_278 76 = some (.aload_n 0, 1) := rfl
theorem hj278_77 : pi_fetch mc_278 77 = some (.getfield 427, 3) := rfl
theorem hj278_80 : pi_fetch mc_278 80 = some (.ifCond .le 16, 3) := rfl
theorem hj278_83 : pi_fetch mc_278 83 = some (.aload_n 0, 1) := rfl
theorem hj278_84 : pi_fetch mc_278 84 = some (.iconst 1, 1) := rfl
theorem hj278_85 : pi_fetch mc_278 85 = some (.invokevirtual 178, 3) := rfl
theorem hj278_88 : pi_fetch mc_278 88 = some (.pop, 1) := rfl
theorem hj278_89 : pi_fetch mc_278 89 = some (.iconst (-1), 1) := rfl
theorem hj278_90 : pi_fetch mc_278 90 = some (.aload_n 0, 1) := rfl
theorem hj278_91 : pi_fetch mc_278 91 = some (.getfield 172, 3) := rfl
theorem hj278_94 : pi_fetch mc_278 94 = some (.isub, 1) := rfl
theorem hj278_95 : pi_fetch mc_278 95 = some (.ireturn, 1) := rfl
theorem hj278_96 : pi_fetch mc_278 96 = some (.iconst 0, 1) := rfl
theorem hj278_97 : pi_fetch mc_278 97 = some (.istore_n 1, 1) := rfl
theorem hj278_98 : pi_fetch mc_278 98 = some (.goto (-50), 3) := rfl
theorem hj278_101 : pi_fetch mc_278 101 = some (.aload_n 0, 1) := rfl
theorem hj278_102 : pi_fetch mc_278 102 = some (.getfield 442, 3) := rfl
theorem hj278_105 : pi_fetch mc_278 105 = some (.ifCond .eq 13, 3) := rfl
theorem hj278_108 : pi_fetch mc_278 108 = some (.aload_n 0, 1) := rfl
theorem hj278_109 : pi_fetch mc_278 109 = some (.invokevirtual 451, 3) := rfl
theorem hj278_112 : pi_fetch mc_278 112 = some (.ifCond .ne (-64), 3) := rfl
theorem hj278_115 : pi_fetch mc_278 115 = some (.goto 10, 3) := rfl
theorem hj278_118 : pi_fetch mc_278 118 = some (.aload_n 0, 1) := rfl
theorem hj278_119 : pi_fetch mc_278 119 = some (.invokevirtual 454, 3) := rfl
theorem hj278_122 : pi_fetch mc_278 122 = some (.ifCond .ne (-74), 3) := rfl
theorem hj278_125 : pi_fetch mc_278 125 = some (.iconst (-1), 1) := rfl
theorem hj278_126 : pi_fetch mc_278 126 = some (.aload_n 0, 1) := rfl
theorem hj278_127 : pi_fetch mc_278 127 = some (.getfield 172, 3) := rfl
theorem hj278_130 : pi_fetch mc_278 130 = some (.isub, 1) := rfl
theorem hj278_131 : pi_fetch mc_278 131 = some (.ireturn, 1) := rfl
theorem hj278_132 : pi_fetch mc_278 132 = some (.aload_n 0, 1) := rfl
theorem hj278_133 : pi_fetch mc_278 133 = some (.getfield 33, 3) := rfl
theorem hj278_136 : pi_fetch mc_278 136 = some (.sipush 230, 3) := rfl
theorem hj278_139 : pi_fetch mc_278 139 = some (.aload_n 0, 1) := rfl
theorem hj278_140 : pi_fetch mc_278 140 = some (.getfield 424, 3) := rfl
theorem hj278_143 : pi_fetch mc_278 143 = some (.iastore, 1) := rfl
theorem hj278_144 : pi_fetch mc_278 144 = some (.iconst 0, 1) := rfl
theorem hj278_145 : pi_fetch mc_278 145 = some (.istore_n 2, 1) := rfl
theorem hj278_146 : pi_fetch mc_278 146 = some (.iload_n 2, 1) := rfl
theorem hj278_147 : pi_fetch mc_278 147 = some (.iconst 3, 1) := rfl
theorem hj278_148 : pi_fetch mc_278 148 = some (.aload_n 0, 1) := rfl
theorem hj278_149 : pi_fetch mc_278 149 = some (.getfield 424, 3) := rfl
theorem hj278_152 : pi_fetch mc_278 152 = some (.imul, 1) := rfl
theorem hj278_153 : pi_fetch mc_278 153 = some (.if_icmp .ge 25, 3) := rfl
theorem hj278_156 : pi_fetch mc_278 156 = some (.aload_n 0, 1) := rfl
theorem hj278_157 : pi_fetch mc_278 157 = some (.getfield 33, 3) := rfl
theorem hj278_160 : pi_fetch mc_278 160 = some (.sipush 231, 3) := rfl
theorem hj278_163 : pi_fetch mc_278 163 = some (.iload_n 2, 1) := rfl
theorem hj278_164 : pi_fetch mc_278 164 = some (.iadd, 1) := rfl
theorem hj278_165 : pi_fetch mc_278 165 = some (.aload_n 0, 1) := rfl
theorem hj278_166 : pi_fetch mc_278 166 = some (.getfield 40, 3) := rfl
theorem hj278_169 : pi_fetch mc_278 169 = some (.iload_n 2, 1) := rfl
theorem hj278_170 : pi_fetch mc_278 170 = some (.iaload, 1) := rfl
theorem hj278_171 : pi_fetch mc_278 171 = some (.iastore, 1) := rfl
theorem hj278_172 : pi_fetch mc_278 172 = some (.iinc 2 1, 3) := rfl
theorem hj278_175 : pi_fetch mc_278 175 = some (.goto (-29), 3) := rfl
theorem hj278_178 : pi_fetch mc_278 178 = some (.aload_n 0, 1) := rfl
theorem hj278_179 : pi_fetch mc_278 179 = some (.getfield 439, 3) := rfl
theorem hj278_182 : pi_fetch mc_278 182 = some (.ireturn, 1) := rfl
/-- what sentence answers -/
def sn_val (z : (Int × Nat) ⊕ Nat) : Int32 := match z with
  | .inl (_, p) => Int32.ofInt (-1) - Int32.ofInt (p : Int)
  | .inr n => Int32.ofNat n
/-- and which FAULT it leaves -/
def sn_fk (z : (Int × Nat) ⊕ Nat) : Int := match z with
  | .inl (k, _) => k
  | .inr _ => 0
def sn_st0 (tp : Nat → Nat) (B : Nat) : sn_S := (false, [], 0, tq_tok tp B 200 0)
theorem cl_beg0 {d B M : Nat} {tp : Nat → Nat} {w : pi_W} {x : Int32} (hC : af_Conf aw_Sh w) (hP : tc_P tp B w) (hV : tq_V w) (hM : x.toInt = (M : Int)) : hq_F (d + 3) sm97 (fun r w' => r = none ∧ CT tp B M w' (tq_tok tp B M 0) ∧ af_Fr [(1, 3, 12)] w w' ∧ gv w' 1 10 = 0) (0, lv_args 0 [.ref 1, .int x], [], w) := by
  have g0 : pi_get (lv_args 0 [.ref 1, .int x]) 0 = some (.ref 1) := rfl
  have g1 : pi_get (lv_args 0 [.ref 1, .int x]) 1 = some (.int x) := rfl
  have kc0 : ((Int32.ofInt 0)).toInt = 0 := by decide
  have kz := sy_z0
  refine hq_F.st (s' := (1, _, _, _)) hf97_0 rfl rfl rfl (hs_al g0) ?_
  refine hq_F.st (s' := (2, _, _, _)) hf97_1 rfl rfl rfl (hs_iln g1) ?_
  refine sy_pf hf97_2 hC sh_1 sk_9_37 (lo := -2147483648) (hi := 2147483647) rfl (af_i32 _) rfl rfl rfl (fun w1 hC1 hw1 => ?_)
  refine hq_F.st (s' := (6, _, _, _)) hf97_5 rfl rfl rfl (hs_al g0) ?_
  refine hq_F.st (s' := (7, _, _, _)) hf97_6 rfl rfl rfl rfl ?_
  refine sy_pf hf97_7 hC1 sh_1 sk_9_40 (lo := -2147483648) (hi := 2147483647) rfl (af_i32 _) rfl rfl rfl (fun w2 hC2 hw2 => ?_)
  refine hq_F.st (s' := (11, _, _, _)) hf97_10 rfl rfl rfl (hs_al g0) ?_
  refine hq_F.st (s' := (12, _, _, _)) hf97_11 rfl rfl rfl rfl ?_
  refine sy_pf hf97_12 hC2 sh_1 sk_9_43 (lo := -2147483648) (hi := 2147483647) rfl (af_i32 _) rfl rfl rfl (fun w3 hC3 hw3 => ?_)
  refine hq_F.st (s' := (16, _, _, _)) hf97_15 rfl rfl rfl (hs_al g0) ?_
  refine hq_F.st (s' := (17, _, _, _)) hf97_16 rfl rfl rfl rfl ?_
  refine sy_pf hf97_17 hC3 sh_1 sk_9_46 (lo := -2147483648) (hi := 2147483647) rfl (af_i32 _) rfl rfl rfl (fun w4 hC4 hw4 => ?_)
  refine hq_F.st (s' := (21, _, _, _)) hf97_20 rfl rfl rfl (hs_al g0) ?_
  have F4 : af_Fr [(1, 3, 5), (1, 10, 12)] w w4 := (((wpF hw1).cov (by decide)).tr (((wpF hw2).cov (by decide)).tr (((wpF hw3).cov (by decide)).tr ((wpF hw4).cov (by decide)))))
  have hP4 := hP.fr F4 (by decide) (by decide)
  have hM4 : (gv w4 1 3).toInt = (M : Int) := by rw [wpv hw4, if_neg (by decide), wpv hw3, if_neg (by decide), wpv hw2, if_neg (by decide), wpv hw1, if_pos ⟨rfl, rfl⟩]; exact hM
  have hp4 : (gv w4 1 4).toInt = ((0 : Nat) : Int) := by rw [wpv hw4, if_neg (by decide), wpv hw3, if_neg (by decide), wpv hw2, if_pos ⟨rfl, rfl⟩]; decide
  have hz4 : gv w4 1 10 = 0 := by rw [wpv hw4, if_neg (by decide), wpv hw3, if_pos ⟨rfl, rfl⟩]; rfl
  refine hq_F.call hf97_21 rfl rfl si_9_49 (by decide) (by decide) sz_98 (sy_argsV hC4 sh_1 rfl rfl rfl (Nat.le_of_ble_eq_true rfl) rfl (Nat.le_of_ble_eq_true rfl) rfl (by decide)) (tc_98 (d := d) hC4 hP4 hM4 (i := 0) hp4 (by omega)) (fun _ _ q => by rw [q.2.1.1, hC4.1]) ?_
  rintro r21 w5 ⟨rfl, c5, F5, a5⟩
  try dsimp only
  refine hq_F.en hf97_24 rfl rfl ?_
  exact ⟨rfl, ⟨c5, hP4.fr F5 (by decide) (by decide), by rw [gv_eq (F5 1 3 (by decide))]; exact hM4, fun k hk => by rw [gl_eq (hq_cell F5 (by decide)), gl_eq (hq_cell F4 (by decide))]; exact hV k hk, tc_ok (fun k hk => by rw [gl_eq (hq_cell F4 (by decide))]; exact hV k hk) a5, tq_tok_W (Nat.zero_le _)⟩, (F4.cov (by decide)).tr (F5.cov (by decide)), by rw [gv_eq (F5 1 10 (by decide))]; exact hz4⟩
theorem sc_text {B nr : Nat} {tp : Nat → Nat} {A : ld_A} {NT : List nt_E} {w : pi_W} (hC : af_Conf aw_Sh w) (hP : tc_P tp B w) (hV : tq_V w) (hL : CL w 5 6 A nr NT) (ho : nt_ok NT) (hcs : nt_cs NT) : hq_F 23 sm88 (fun r w' => af_Conf aw_Sh w' ∧ af_Fr [(1, 3, 12), (22, 4, 5), (23, 0, 40), (24, 0, 40), (25, 0, 40), (27, 3, 4)] w w' ∧ ((∃ n, n ≤ 20 ∧ r = some (.int (Int32.ofNat n)) ∧ gv w' 1 10 = 0 ∧ Rc tp B 200 NT (sn_st0 tp B) (.inr n)) ∨ (r = some (.int (-1)) ∧ ∃ k p, Rc tp B 200 NT (sn_st0 tp B) (.inl (k, p)) ∧ FC w' k p))) (0, lv_args 0 [.ref 27], [], w) := by
  have HC : sc_Cond tp B A nr NT 1 22 := sc_cond (d := 19) (sc_all ho hcs 8 1 (by omega)) (by omega)
  have g0 : pi_get (lv_args 0 [.ref 27]) 0 = some (.ref 27) := rfl
  have kc0 : (((Int16.ofInt 200).toInt32)).toInt = 200 := by decide
  have kc1 : ((0 : Int32)).toInt = 0 := by decide
  have kc2 : ((1 : Int32)).toInt = 1 := by decide
  have kc3 : ((Int32.ofInt (-1))).toInt = (-1) := by decide
  have kc4 : ((Int32.ofInt 0)).toInt = 0 := by decide
  have kc5 : ((Int32.ofInt 1)).toInt = 1 := by decide
  have kz := sy_z0
  refine hq_F.st (s' := (1, _, _, _)) hj88_0 rfl rfl rfl (hs_al g0) ?_
  refine hq_F.st (s' := (2, _, _, _)) hj88_1 rfl rfl rfl rfl ?_
  refine sy_pf hj88_2 hC sh_27 sk_8_23 (lo := -2147483648) (hi := 2147483647) rfl (af_i32 _) rfl rfl rfl (fun w21 hC21 hw21 => ?_)
  refine hq_F.st (s' := (6, _, _, _)) hj88_5 rfl rfl rfl (hs_al g0) ?_
  refine hq_F.st (s' := (9, _, _, _)) hj88_6 rfl rfl rfl (hq_gf hC21 sh_27 sk_8_19 (hq_ref hC21 sh_27 (b := 22) rfl)) ?_
  refine hq_F.call hj88_9 rfl rfl si_8_27 (by decide) (by decide) sz_80 (sy_argsV hC21 sh_22 rfl rfl rfl (Nat.le_of_ble_eq_true rfl) rfl (Nat.le_of_ble_eq_true rfl) rfl (by decide)) (cl_void (d := 22) (sh := [.inr (.inl 22)]) ah_277 (by decide) pz_80 hC21 rfl ⟨rfl, trivial⟩ (by decide)) (fun _ _ q => by rw [q.2.1.1, hC21.1]) ?_
  rintro r9 v1 ⟨rfl, c1, f1⟩
  try dsimp only
  refine hq_F.st (s' := (13, _, _, _)) hj88_12 rfl rfl rfl (hs_al g0) ?_
  refine hq_F.st (s' := (16, _, _, _)) hj88_13 rfl rfl rfl (hq_gf c1 sh_27 sk_8_9 (hq_ref c1 sh_27 (b := 1) rfl)) ?_
  refine hq_F.st (s' := (19, _, _, _)) hj88_16 rfl rfl rfl rfl ?_
  refine hq_F.call hj88_19 rfl rfl si_8_32 (by decide) (by decide) sz_97 (sy_argsV c1 sh_1 rfl rfl rfl (Nat.le_of_ble_eq_true rfl) rfl (Nat.le_of_ble_eq_true rfl) rfl (by decide)) (cl_beg0 (d := 19) (M := 200) c1 ((hP.fr (wpF hw21) (by decide) (by decide)).fr f1 (by decide) (by decide)) (fun k hk => by rw [gl_eq (hq_cell f1 (by decide)), gl_eq (hq_cell (wpF hw21) (by decide))]; exact hV k hk) (by decide)) (fun _ _ q => by rw [q.2.1.1.1, c1.1]) ?_
  rintro r19 w2 ⟨rfl, h2, F2, z2⟩
  try dsimp only
  refine hq_F.st (s' := (23, _, _, _)) hj88_22 rfl rfl rfl (hs_al g0) ?_
  refine hq_F.st (s' := (24, _, _, _)) hj88_23 rfl rfl rfl rfl ?_
  refine hq_F.call hj88_24 rfl rfl si_8_38 (by decide) (by decide) sz_89 (sy_argsV h2.1 sh_27 rfl rfl rfl (Nat.le_of_ble_eq_true rfl) rfl (Nat.le_of_ble_eq_true rfl) rfl (by decide)) (HC w2 _ 0 h2 (((hL.fr (wpF hw21) (by decide) (by decide)).fr f1 (by decide) (by decide)).fr F2 (by decide) (by decide)) (by rw [gv_eq (hq_cell F2 (by decide)), gv_eq (hq_cell f1 (by decide)), wpv hw21, if_pos ⟨rfl, rfl⟩]; decide) (by omega)) (fun _ _ q => by rw [q.1.1, h2.1.1]) ?_
  rintro r24 w3 ⟨hC3, F3, q⟩
  try dsimp only
  rcases q with ⟨rfl, z3, t3, n3, h3, o3, lt3, le3, cc3, go3⟩ | ⟨rfl, k, p, q1, go3⟩
  · skip
    refine hq_F.st (s' := (32, _, _, _)) hj88_27 rfl rfl rfl (hs_if (ci_ne (by omega)) rfl) ?_
    refine hq_F.st (s' := (33, _, _, _)) hj88_32 rfl rfl rfl (hs_al g0) ?_
    refine hq_F.st (s' := (36, _, _, _)) hj88_33 rfl rfl rfl (hq_gf hC3 sh_27 sk_8_9 (hq_ref hC3 sh_27 (b := 1) rfl)) ?_
    refine hq_F.st (s' := (39, _, _, _)) hj88_36 rfl rfl rfl (hq_gf hC3 sh_1 sk_8_42 (sy_v hC3 (by decide) rfl)) ?_
    have hk3 := h3.2.2.2.2.1.1
    by_cases b39 : ((gv w3 1 5)).toInt = 0
    · skip
      refine hq_F.st (s' := (53, _, _, _)) hj88_39 rfl rfl rfl (hs_if (ci_eq (by omega)) rfl) ?_
      refine hq_F.st (s' := (54, _, _, _)) hj88_53 rfl rfl rfl (hs_al g0) ?_
      refine hq_F.st (s' := (57, _, _, _)) hj88_54 rfl rfl rfl (hq_gf hC3 sh_27 sk_8_23 (sy_v hC3 (by decide) rfl)) ?_
      refine hq_F.en hj88_57 rfl (pi_ri _) ?_
      rw [show gv w3 27 3 = Int32.ofNat n3 from hn_e o3 (by omega)]
      exact ⟨hC3, ((wpF hw21).cov (by decide)).tr ((f1.cov (by decide)).tr ((F2.cov (by decide)).tr (F3.cov (by decide)))), Or.inl ⟨n3, le3, rfl, z3.trans z2, go3 [] rfl (fun _ => rfl) _ (Rc.end (by rw [sn_s2]; unfold sn_wh; rw [if_pos (by omega)]; rfl))⟩⟩
    · skip
      refine hq_F.st (s' := (42, _, _, _)) hj88_39 rfl rfl rfl (hs_ifn (t := 53) (ci_eqn (by omega)) rfl) ?_
      refine hq_F.st (s' := (43, _, _, _)) hj88_42 rfl rfl rfl (hs_al g0) ?_
      refine hq_F.st (s' := (46, _, _, _)) hj88_43 rfl rfl rfl (hq_gf hC3 sh_27 sk_8_9 (hq_ref hC3 sh_27 (b := 1) rfl)) ?_
      refine hq_F.st (s' := (47, _, _, _)) hj88_46 rfl rfl rfl rfl ?_
      refine hq_F.call hj88_47 rfl rfl si_8_45 (by decide) (by decide) sz_103 (sy_argsV hC3 sh_1 rfl rfl rfl (Nat.le_of_ble_eq_true rfl) rfl (Nat.le_of_ble_eq_true rfl) rfl (by decide)) (ct_ref h3 ((Int32.ofInt 1))) (fun _ _ q => by rw [q.2.1.1.1, hC3.1]) ?_
      rintro r47 w9 ⟨rfl, k1, k2, k3, k4⟩
      try dsimp only
      refine hq_F.st (s' := (51, _, _, _)) hj88_50 rfl rfl rfl rfl ?_
      refine hq_F.st (s' := (52, _, _, _)) hj88_51 rfl rfl rfl rfl ?_
      refine hq_F.en hj88_52 rfl rfl ?_
      exact ⟨k1.1, ((wpF hw21).cov (by decide)).tr ((f1.cov (by decide)).tr ((F2.cov (by decide)).tr ((F3.cov (by decide)).tr (k2.cov (by decide))))), Or.inr ⟨rfl, 1, t3.2.1, go3 [] rfl (fun _ => rfl) _ (Rc.bad (by rw [sn_s2]; unfold sn_wh; rw [if_neg (by omega), if_neg (by have := cc3 rfl; omega)]; exact if_neg (fun q => q.2 rfl))), by rw [k3]; decide, k4⟩⟩
  · skip
    refine hq_F.st (s' := (30, _, _, _)) hj88_27 rfl rfl rfl (hs_ifn (t := 32) (ci_nen (by omega)) rfl) ?_
    refine hq_F.st (s' := (31, _, _, _)) hj88_30 rfl rfl rfl rfl ?_
    refine hq_F.en hj88_31 rfl rfl ?_
    exact ⟨hC3, ((wpF hw21).cov (by decide)).tr ((f1.cov (by decide)).tr ((F2.cov (by decide)).tr (F3.cov (by decide)))), Or.inr ⟨rfl, k, p, go3 [] rfl (fun _ => rfl), q1⟩⟩
theorem cx_sent {B nr : Nat} {tp : Nat → Nat} {A : ld_A} {NT : List nt_E} {w : pi_W} (hC : af_Conf aw_Sh w) (hP : tc_P tp B w) (hV : tq_V w) (hL : CL w 5 6 A nr NT) (ho : nt_ok NT) (hcs : nt_cs NT) : hq_F 24 sm147 (fun r w' => ∃ z, Rc tp B 200 NT (sn_st0 tp B) z ∧ r = some (.int (sn_val z)) ∧ (gv w' 1 10).toInt = sn_fk z) (0, lv_args 0 [.ref 0], [], w) := by
  have g0 : pi_get (lv_args 0 [.ref 0]) 0 = some (.ref 0) := rfl
  have kc0 : ((-1 : Int32)).toInt = (-1) := by decide
  have kc1 : ((0 : Int32)).toInt = 0 := by decide
  have kc2 : ((1 : Int32)).toInt = 1 := by decide
  have kc3 : ((Int32.ofInt (-1))).toInt = (-1) := by decide
  have kc4 : ((Int32.ofInt 0)).toInt = 0 := by decide
  have kz := sy_z0
  refine hq_F.st (s' := (1, _, _, _)) hj147_0 rfl rfl rfl (hs_al g0) ?_
  refine hq_F.st (s' := (4, _, _, _)) hj147_1 rfl rfl rfl (hq_gf hC sh_0 sk_10_73 (hq_ref hC sh_0 (b := 27) rfl)) ?_
  refine hq_F.call hj147_4 rfl rfl si_10_284 (by decide) (by decide) sz_88 (sy_argsV hC sh_27 rfl rfl rfl (Nat.le_of_ble_eq_true rfl) rfl (Nat.le_of_ble_eq_true rfl) rfl (by decide)) (sc_text hC hP hV hL ho hcs) (fun _ _ q => by rw [q.1.1, hC.1]) ?_
  rintro r4 w1 ⟨hC1, F1, q⟩
  try dsimp only
  rcases q with ⟨n, hn, rfl, z1, R1⟩ | ⟨rfl, k, p, R1, q1⟩
  · have tn : (Int32.ofNat n).toInt = (n : Int) := hn_t (by omega)
    refine hq_F.st (s' := (8, _, _, _)) hj147_7 rfl rfl rfl rfl ?_
    refine hq_F.st (s' := (9, _, _, _)) hj147_8 rfl rfl rfl (hs_al (hg_nr g0 (by decide))) ?_
    refine hq_F.st (s' := (12, _, _, _)) hj147_9 rfl rfl rfl (hq_gf hC1 sh_0 sk_10_12 (hq_ref hC1 sh_0 (b := 1) rfl)) ?_
    refine hq_F.st (s' := (13, _, _, _)) hj147_12 rfl rfl rfl rfl ?_
    refine sy_pf hj147_13 hC1 sh_1 sk_10_118 (lo := -2147483648) (hi := 2147483647) rfl (af_i32 _) rfl rfl rfl (fun w21 hC21 hw21 => ?_)
    refine hq_F.st (s' := (17, _, _, _)) hj147_16 rfl rfl rfl (hs_iln (pi_get_set _ _ _)) ?_
    refine hq_F.st (s' := (18, _, _, _)) hj147_17 rfl rfl rfl rfl ?_
    refine hq_F.st (s' := (31, _, _, _)) hj147_18 rfl rfl rfl (hs_ic (ci_ne (by omega)) rfl) ?_
    refine hq_F.st (s' := (32, _, _, _)) hj147_31 rfl rfl rfl (hs_al (hg_nr g0 (by decide))) ?_
    refine hq_F.st (s' := (35, _, _, _)) hj147_32 rfl rfl rfl (hq_gf hC21 sh_0 sk_10_61 (hq_ref hC21 sh_0 (b := 17) rfl)) ?_
    refine hq_F.st (s' := (36, _, _, _)) hj147_35 rfl rfl rfl (hs_al (hg_nr g0 (by decide))) ?_
    refine hq_F.st (s' := (39, _, _, _)) hj147_36 rfl rfl rfl (hq_gf hC21 sh_0 sk_10_65 (hq_ref hC21 sh_0 (b := 22) rfl)) ?_
    refine hq_F.call hj147_39 rfl rfl si_10_287 (by decide) (by decide) sz_81 (sy_argsV hC21 sh_17 rfl rfl rfl (Nat.le_of_ble_eq_true rfl) rfl (Nat.le_of_ble_eq_true rfl) rfl (by decide)) (cl_void (d := 23) (sh := [.inr (.inl 17), .inr (.inl 22)]) ah_314 (by decide) pz_81 hC21 rfl ⟨rfl, rfl, trivial⟩ (by decide)) (fun _ _ q => by rw [q.2.1.1, hC21.1]) ?_
    rintro r39 v1 ⟨rfl, c1, f1⟩
    try dsimp only
    refine hq_F.st (s' := (43, _, _, _)) hj147_42 rfl rfl rfl (hs_iln (pi_get_set _ _ _)) ?_
    refine hq_F.en hj147_43 rfl (pi_ri _) ?_
    exact ⟨_, R1, rfl, by show (gv v1 1 10).toInt = 0; rw [gv_eq (f1 1 10 (by decide)), wpv hw21, if_neg (by decide), z1]; decide⟩
  · skip
    refine hq_F.st (s' := (8, _, _, _)) hj147_7 rfl rfl rfl rfl ?_
    refine hq_F.st (s' := (9, _, _, _)) hj147_8 rfl rfl rfl (hs_al (hg_nr g0 (by decide))) ?_
    refine hq_F.st (s' := (12, _, _, _)) hj147_9 rfl rfl rfl (hq_gf hC1 sh_0 sk_10_12 (hq_ref hC1 sh_0 (b := 1) rfl)) ?_
    refine hq_F.st (s' := (13, _, _, _)) hj147_12 rfl rfl rfl rfl ?_
    refine sy_pf hj147_13 hC1 sh_1 sk_10_118 (lo := -2147483648) (hi := 2147483647) rfl (af_i32 _) rfl rfl rfl (fun w22 hC22 hw22 => ?_)
    refine hq_F.st (s' := (17, _, _, _)) hj147_16 rfl rfl rfl (hs_iln (pi_get_set _ _ _)) ?_
    refine hq_F.st (s' := (18, _, _, _)) hj147_17 rfl rfl rfl rfl ?_
    refine hq_F.st (s' := (21, _, _, _)) hj147_18 rfl rfl rfl (hs_icn (t := 31) (ci_nen (by omega)) rfl) ?_
    refine hq_F.st (s' := (22, _, _, _)) hj147_21 rfl rfl rfl rfl ?_
    refine hq_F.st (s' := (23, _, _, _)) hj147_22 rfl rfl rfl (hs_al (hg_nr g0 (by decide))) ?_
    refine hq_F.st (s' := (26, _, _, _)) hj147_23 rfl rfl rfl (hq_gf hC22 sh_0 sk_10_12 (hq_ref hC22 sh_0 (b := 1) rfl)) ?_
    refine hq_F.st (s' := (29, _, _, _)) hj147_26 rfl rfl rfl (hq_gf hC22 sh_1 sk_10_129 (sy_v hC22 (by decide) rfl)) ?_
    have q26 : (gv w22 1 11).toInt = (gv w1 1 11).toInt := by rw [wpv hw22, if_neg (by decide)]
    refine hq_F.st (s' := (30, _, _, _)) hj147_29 rfl rfl rfl rfl ?_
    refine hq_F.en hj147_30 rfl (pi_ri _) ?_
    rw [show gv w22 1 11 = Int32.ofInt (p : Int) from by rw [wpv hw22, if_neg (by decide)]; exact ld_oi q1.2]
    exact ⟨_, R1, rfl, by show (gv w22 1 10).toInt = k; rw [wpv hw22, if_neg (by decide)]; exact q1.1⟩
theorem sn_leaf_R {tp : Nat → Nat} {B M : Nat} {NT : List nt_E} {k : Int} {t t2 : tq_T} (h : sn_leaf tp B M NT k t = .inr t2) : tq_R t t2 := by
  have h0 : tq_R t t := fun _ => Nat.le_refl _
  unfold sn_leaf at h
  split at h
  · cases h
    exact h0
  · split at h
    · obtain ⟨a, ha, h⟩ := ls_b_in h
      cases h
      exact h0.nx (ls_look_2 ha)
    · split at h
      · rename_i q
        split at h
        · rename_i q2
          cases h
          exact (h0.nx (by omega)).nx (by omega)
        · cases h
      · cases h
theorem sn_fw {tp : Nat → Nat} {B M : Nat} {NT : List nt_E} {s s2 : sn_S} (h : sn_step tp B M NT s = .inr (.inr s2)) : 2 ≤ s.2.2.2.1 ∧ (2 ≤ s2.2.2.2.1 → s.2.2.2.2.2.2.2 < s2.2.2.2.2.2.2.2) := by
  obtain ⟨b, K, n, t⟩ := s
  have hnx : 2 ≤ (tq_nx tp B M t).1 → t.2.2.2.2 < (tq_nx tp B M t).2.2.2.2 := fun q => tq_tok_e q
  cases b with
  | true =>
    rw [sn_s2] at h
    unfold sn_wh at h
    split at h
    · split at h <;> cases h
    · split at h
      · rename_i q
        cases h
        exact ⟨by show 2 ≤ t.1; have := ls_k2 (t := t) (by omega); omega, hnx⟩
      · split at h
        · rename_i q
          cases h
          have := of_decide_eq_true q.1
          exact ⟨by show 2 ≤ t.1; omega, hnx⟩
        · cases h
  | false =>
    rw [sn_s1] at h
    unfold sn_one at h
    split at h
    · cases h
    · rename_i q0
      have h2 : 2 ≤ t.1 := by
        cases ho : sn_op t with
        | true => have := of_decide_eq_true ho; omega
        | false => have := ls_k2 (t := t) (by have : ¬ ls_k t < 19 := fun q => q0 ⟨ho, q⟩; omega); omega
      split at h
      · cases h
      · split at h
        · cases h
          exact ⟨h2, hnx⟩
        · split at h
          · cases h
            exact ⟨h2, hnx⟩
          · obtain ⟨t2, ht2, h⟩ := ls_b_in h
            cases h
            refine ⟨h2, fun q => ?_⟩
            have r := sn_leaf_R ht2 q
            show t.2.2.2.2 < t2.2.2.2.2
            by_cases e : 2 ≤ (tq_nx tp B M t).1
            · have := hnx e
              omega
            · exfalso
              revert ht2 q
              unfold sn_leaf
              split
              · intro ht2 q
                cases ht2
                exact e q
              · split
                · intro ht2 q
                  obtain ⟨a, ha, _⟩ := ls_b_in ht2
                  exact e (ls_look_2 ha)
                · split
                  · rename_i q4
                    exact fun _ _ => e (by omega)
                  · intro ht2
                    cases ht2
theorem ml_tk2 {d : Nat} {w : pi_W} {x : Int32} (hC : af_Conf aw_Sh w) (hx : x.toInt = 200) : hq_F d sm166 (fun r w' => r = none ∧ af_Conf aw_Sh w' ∧ af_Fr [(61, 2, 6)] w w' ∧ gv w' 61 3 = gv w 61 2 ∧ (gv w' 61 4).toInt = 0 ∧ (gv w' 61 5).toInt = 200) (0, lv_args 0 [.ref 61, .int x], [], w) := by
  have hb2 := sy_b hC (c := 61) (i := 2) (lo := 0) (hi := 940) (by decide) rfl
  have g0 : pi_get (lv_args 0 [.ref 61, .int x]) 0 = some (.ref 61) := rfl
  have g1 : pi_get (lv_args 0 [.ref 61, .int x]) 1 = some (.int x) := rfl
  have kc0 : ((Int32.ofInt 0)).toInt = 0 := by decide
  have kz := sy_z0
  refine hq_F.st (s' := (1, _, _, _)) hg166_0 rfl rfl rfl (hs_al g0) ?_
  refine hq_F.st (s' := (2, _, _, _)) hg166_1 rfl rfl rfl (hs_al g0) ?_
  refine hq_F.st (s' := (5, _, _, _)) hg166_2 rfl rfl rfl (hq_gf hC sh_61 sk_11_7 (sy_v hC (by decide) rfl)) ?_
  refine sy_pf hg166_5 hC sh_61 sk_11_18 (lo := 0) (hi := 940) rfl (by omega) rfl rfl rfl (fun w1 hC1 hw1 => ?_)
  refine hq_F.st (s' := (9, _, _, _)) hg166_8 rfl rfl rfl (hs_al g0) ?_
  refine hq_F.st (s' := (10, _, _, _)) hg166_9 rfl rfl rfl rfl ?_
  refine sy_pf hg166_10 hC1 sh_61 sk_11_7 (lo := 0) (hi := 940) rfl (by omega) rfl rfl rfl (fun w2 hC2 hw2 => ?_)
  refine hq_F.st (s' := (14, _, _, _)) hg166_13 rfl rfl rfl (hs_al g0) ?_
  refine hq_F.st (s' := (15, _, _, _)) hg166_14 rfl rfl rfl rfl ?_
  refine sy_pf hg166_15 hC2 sh_61 sk_11_21 (lo := 0) (hi := 940) rfl (by omega) rfl rfl rfl (fun w3 hC3 hw3 => ?_)
  refine hq_F.st (s' := (19, _, _, _)) hg166_18 rfl rfl rfl (hs_al g0) ?_
  refine hq_F.st (s' := (20, _, _, _)) hg166_19 rfl rfl rfl (hs_iln g1) ?_
  refine sy_pf hg166_20 hC3 sh_61 sk_11_24 (lo := 0) (hi := 900) rfl (by omega) rfl rfl rfl (fun w4 hC4 hw4 => ?_)
  refine hq_F.en hg166_23 rfl rfl ?_
  exact ⟨rfl, hC4, (((wpF hw1).cov (by decide)).tr (((wpF hw2).cov (by decide)).tr (((wpF hw3).cov (by decide)).tr ((wpF hw4).cov (by decide))))), by rw [wpv hw4, if_neg (by decide), wpv hw3, if_neg (by decide), wpv hw2, if_neg (by decide), wpv hw1, if_pos ⟨rfl, rfl⟩], by rw [wpv hw4, if_neg (by decide), wpv hw3, if_pos ⟨rfl, rfl⟩]; decide, by rw [wpv hw4, if_pos ⟨rfl, rfl⟩]; exact hx⟩
theorem sb_231 : ∀ k, k < 411 → 231 ≤ k → af_seg hq_S63 k = some (-2147483648, 2147483647) := by decide +kernel
theorem sm_copy {d c n : Nat} (hc45 : c ≤ 45) (hn20 : n ≤ 20) : ∀ (m i : Nat) {w : pi_W} {lv : pi_L}, i + m = 3 * c → af_Conf aw_Sh w → (gv w 61 36).toInt = (c : Int) → (gv w 61 37).toInt = (n : Int) → gv w 61 15 = 0 → pi_get lv 0 = some (.ref 61) → pi_get lv 2 = some (.int (Int32.ofNat i)) → hq_F d sm278 (fun r w' => r = some (.int (Int32.ofNat n)) ∧ gv w' 61 15 = 0) (146, lv, [], w) := by
  intro m
  induction m with
  | zero =>
    intro i w lv hi hC hc hn hz g0 g2
    have ti : (Int32.ofNat i).toInt = (i : Int) := hn_t (by omega)
    have kc0 : ((Int32.ofInt 3)).toInt = 3 := by decide
    have kz := sy_z0
    refine hq_F.st (s' := (147, _, _, _)) hj278_146 rfl rfl rfl (hs_iln g2) ?_
    refine hq_F.st (s' := (148, _, _, _)) hj278_147 rfl rfl rfl rfl ?_
    refine hq_F.st (s' := (149, _, _, _)) hj278_148 rfl rfl rfl (hs_al g0) ?_
    refine hq_F.st (s' := (152, _, _, _)) hj278_149 rfl rfl rfl (hq_gf hC sh_61 sk_11_424 (sy_v hC (by decide) rfl)) ?_
    rw [show gv w 61 36 = Int32.ofNat c from hn_e hc (by omega)]
    refine hq_F.st (s' := (153, _, _, _)) hj278_152 rfl rfl rfl rfl ?_
    rw [hn_3]
    have t3c : (Int32.ofNat (3 * c)).toInt = ((3 * c : Nat) : Int) := hn_t (by omega)
    refine hq_F.st (s' := (178, _, _, _)) hj278_153 rfl rfl rfl (hs_ic (ci_ge (by omega)) rfl) ?_
    refine hq_F.st (s' := (179, _, _, _)) hj278_178 rfl rfl rfl (hs_al g0) ?_
    refine hq_F.st (s' := (182, _, _, _)) hj278_179 rfl rfl rfl (hq_gf hC sh_61 sk_11_439 (sy_v hC (by decide) rfl)) ?_
    rw [show gv w 61 37 = Int32.ofNat n from hn_e hn (by omega)]
    refine hq_F.en hj278_182 rfl (pi_ri _) ?_
    exact ⟨rfl, hz⟩
  | succ m ih =>
    intro i w lv hi hC hc hn hz g0 g2
    have ti : (Int32.ofNat i).toInt = (i : Int) := hn_t (by omega)
    have kc0 : (((Int16.ofInt 231).toInt32)).toInt = 231 := by decide
    have kc1 : ((Int32.ofInt 3)).toInt = 3 := by decide
    have kz := sy_z0
    refine hq_F.st (s' := (147, _, _, _)) hj278_146 rfl rfl rfl (hs_iln g2) ?_
    refine hq_F.st (s' := (148, _, _, _)) hj278_147 rfl rfl rfl rfl ?_
    refine hq_F.st (s' := (149, _, _, _)) hj278_148 rfl rfl rfl (hs_al g0) ?_
    refine hq_F.st (s' := (152, _, _, _)) hj278_149 rfl rfl rfl (hq_gf hC sh_61 sk_11_424 (sy_v hC (by decide) rfl)) ?_
    rw [show gv w 61 36 = Int32.ofNat c from hn_e hc (by omega)]
    refine hq_F.st (s' := (153, _, _, _)) hj278_152 rfl rfl rfl rfl ?_
    rw [hn_3]
    have t3c : (Int32.ofNat (3 * c)).toInt = ((3 * c : Nat) : Int) := hn_t (by omega)
    refine hq_F.st (s' := (156, _, _, _)) hj278_153 rfl rfl rfl (hs_icn (t := 178) (ci_gen (by omega)) rfl) ?_
    refine hq_F.st (s' := (157, _, _, _)) hj278_156 rfl rfl rfl (hs_al g0) ?_
    refine hq_F.st (s' := (160, _, _, _)) hj278_157 rfl rfl rfl (hq_gf hC sh_61 sk_11_33 (hq_ref hC sh_61 (b := 63) rfl)) ?_
    refine hq_F.st (s' := (163, _, _, _)) hj278_160 rfl rfl rfl rfl ?_
    refine hq_F.st (s' := (164, _, _, _)) hj278_163 rfl rfl rfl (hs_iln g2) ?_
    refine hq_F.st (s' := (165, _, _, _)) hj278_164 rfl rfl rfl rfl ?_
    refine hq_F.st (s' := (166, _, _, _)) hj278_165 rfl rfl rfl (hs_al g0) ?_
    refine hq_F.st (s' := (169, _, _, _)) hj278_166 rfl rfl rfl (hq_gf hC sh_61 sk_11_40 (hq_ref hC sh_61 (b := 65) rfl)) ?_
    refine hq_F.st (s' := (170, _, _, _)) hj278_169 rfl rfl rfl (hs_iln g2) ?_
    refine hq_F.st (s' := (171, _, _, _)) hj278_170 rfl rfl rfl (sy_iav hC sh_65 (n := i) ti (by omega)) ?_
    refine sy_isv hj278_171 hC hq_s63 (n := 231 + i) (by rw [show ((Int16.ofInt 231).toInt32) = Int32.ofNat 231 by decide, hn_a]; exact hn_t (by omega)) (by omega) (sy_full (sb_231 _ (by omega) (by omega))) (fun w1 hC1 hw1 => ?_)
    refine hq_F.st (s' := (175, _, _, _)) hj278_172 rfl rfl rfl (hs_inc g2 (by decide)) ?_
    refine hq_F.st (s' := (146, _, _, _)) hj278_175 rfl rfl rfl rfl ?_
    exact ih (i + 1) (by omega) hC1 (by rw [wpv hw1, if_neg (by omega)]; exact hc) (by rw [wpv hw1, if_neg (by omega)]; exact hn) (by rw [wpv hw1, if_neg (by omega)]; exact hz) (hg_nr g0 (by decide)) (by rw [← hn_s]; exact (pi_get_set _ _ _))
