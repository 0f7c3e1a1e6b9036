/-! ===== the DIARY in the class: diary; by program ===== -/
theorem sk_10_163 : pi_look pi_fT 10 163 = some (4, 1, 257) := rfl
theorem sk_10_48 : pi_look pi_fT 10 48 = some (10, 5, 406) := rfl
theorem sk_10_80 : pi_look pi_fT 10 80 = some (10, 10, 411) := rfl
theorem si_10_194 : pi_look pi_iT 10 194 = some (2, 72, 1, 772) := rfl
theorem si_10_267 : pi_look pi_iT 10 267 = some (2, 36, 1, 939) := rfl
theorem si_10_277 : pi_look pi_iT 10 277 = some (2, 1, 0, 1000) := rfl
theorem si_10_280 : pi_look pi_iT 10 280 = some (2, 158, 1, 1029) := rfl
def sm145 : pi_M := (10, 3, (some .int), false, mc_145)
def sf_13 : List (Nat ⊕ (Int × Int) ⊕ Unit) := match (aw_Sh[13]? : Option af_C) with
  | some (.inr (_, f)) => f
  | _ => []
theorem sh_13 : aw_Sh[13]? = some (.inr (4, sf_13)) := rfl
set_option maxRecDepth 100000 in
theorem sz_145 : pi_mt[145]? = some (mn_145, prog_1_method_37_code, (10, 3, (some .int), false, mc_145)) := rfl
set_option maxRecDepth 100000 in
theorem sz_158 : pi_mt[158]? = some (mn_158, prog_1_method_50_code, (10, 8, (some .int), false, mc_158)) := rfl
set_option maxRecDepth 100000 in
theorem sz_72 : pi_mt[72]? = some (mn_72, prog_7_method_3_code, (5, 2, none, false, mc_72)) := rfl
theorem hj145_0 : pi_fetch mc_145 0 = some (.iload_n 1, 1) := rfl
theorem hj145_1 : pi_fetch mc_145 1 = some (.ifCond .eq 12, 3) := rfl
theorem hj145_4 : pi_fetch mc_145 4 = some (.iload_n 1, 1) := rfl
theorem hj145_5 : pi_fetch mc_145 5 = some (.iconst 1, 1) := rfl
theorem hj145_6 : pi_fetch mc_145 6 = some (.if_icmp .eq 7, 3) := rfl
theorem hj145_9 : pi_fetch mc_145 9 = some (.sipush (-1000), 3) := rfl
theorem hj145_12 : pi_fetch mc_145 12 = some (.ireturn, 1) := rfl
theorem hj145_13 : pi_fetch mc_145 13 = some (.aload_n 0, 1) := rfl
theorem hj145_14 : pi_fetch mc_145 14 = some (.getfield 80, 3) := rfl
theorem hj145_17 : pi_fetch mc_145 17 = some (.invokevirtual 277, 3) := rfl
theorem hj145_20 : pi_fetch mc_145 20 = some (.istore_n 2, 1) := rfl
theorem hj145_21 : pi_fetch mc_145 21 = some (.aload_n 0, 1) := rfl
theorem hj145_22 : pi_fetch mc_145 22 = some (.getfield 12, 3) := rfl
theorem hj145_25 : pi_fetch mc_145 25 = some (.iconst 0, 1) := rfl
theorem hj145_26 : pi_fetch mc_145 26 = some (.putfield 118, 3) := rfl
theorem hj145_29 : pi_fetch mc_145 29 = some (.iload_n 2, 1) := rfl
theorem hj145_30 : pi_fetch mc_145 30 = some (.ifCond .ne 14, 3) := rfl
theorem hj145_33 : pi_fetch mc_145 33 = some (.bipush (-2), 2) := rfl
theorem hj145_35 : pi_fetch mc_145 35 = some (.aload_n 0, 1) := rfl
theorem hj145_36 : pi_fetch mc_145 36 = some (.getfield 12, 3) := rfl
theorem hj145_39 : pi_fetch mc_145 39 = some (.getfield 129, 3) := rfl
theorem hj145_42 : pi_fetch mc_145 42 = some (.isub, 1) := rfl
theorem hj145_43 : pi_fetch mc_145 43 = some (.ireturn, 1) := rfl
theorem hj145_44 : pi_fetch mc_145 44 = some (.iload_n 1, 1) := rfl
theorem hj145_45 : pi_fetch mc_145 45 = some (.iconst 1, 1) := rfl
theorem hj145_46 : pi_fetch mc_145 46 = some (.if_icmp .ne 26, 3) := rfl
theorem hj145_49 : pi_fetch mc_145 49 = some (.aload_n 0, 1) := rfl
theorem hj145_50 : pi_fetch mc_145 50 = some (.getfield 54, 3) := rfl
theorem hj145_53 : pi_fetch mc_145 53 = some (.aload_n 0, 1) := rfl
theorem hj145_54 : pi_fetch mc_145 54 = some (.getfield 44, 3) := rfl
theorem hj145_57 : pi_fetch mc_145 57 = some (.getfield 163, 3) := rfl
theorem hj145_60 : pi_fetch mc_145 60 = some (.invokevirtual 194, 3) := rfl
theorem hj145_63 : pi_fetch mc_145 63 = some (.aload_n 0, 1) := rfl
theorem hj145_64 : pi_fetch mc_145 64 = some (.aload_n 0, 1) := rfl
theorem hj145_65 : pi_fetch mc_145 65 = some (.getfield 44, 3) := rfl
theorem hj145_68 : pi_fetch mc_145 68 = some (.invokevirtual 280, 3) := rfl
theorem hj145_71 : pi_fetch mc_145 71 = some (.ireturn, 1) := rfl
theorem hj145_72 : pi_fetch mc_145 72 = some (.aload_n 0, 1) := rfl
theorem hj145_73 : pi_fetch mc_145 73 = some (.getfield 48, 3) := rfl
theorem hj145_76 : pi_fetch mc_145 76 = some (.aload_n 0, 1) := rfl
theorem hj145_77 : pi_fetch mc_145 77 = some (.getfield 44, 3) := rfl
theorem hj145_80 : pi_fetch mc_145 80 = some (.invokevirtual 267, 3) := rfl
theorem hj145_83 : pi_fetch mc_145 83 = some (.aload_n 0, 1) := rfl
theorem hj145_84 : pi_fetch mc_145 84 = some (.aload_n 0, 1) := rfl
theorem hj145_85 : pi_fetch mc_145 85 = some (.getfield 48, 3) := rfl
theorem hj145_88 : pi_fetch mc_145 88 = some (.invokevirtual 280, 3) := rfl
theorem hj145_91 : pi_fetch mc_145 91 = some (.ireturn, 1) := rfl
theorem cl_intr {d d' : Nat} {K : af_K} {y : MethodName} {cc : ByteArray} {mz : pi_M} {sh : List (af_F ⊕ Nat ⊕ Unit)} {As : List Value} {w : pi_W} (h : af_Holds aw_Sh d' K) (hd : d' ≤ d) (hz : pi_mt[K.1]? = some (y, cc, mz)) (hC : af_Conf aw_Sh w) (hpre : K.2.2.1 = (0, sh, [], ([], [], []))) (hs : af_St 0 (fun _ => 0) sh As) (hP : (K.2.2.2.2.all (fun P => match P.2.1 with
    | [.inl _] => true
    | _ => false)) = true) : hq_F d mz (fun r w' => (∃ v : Int32, r = some (.int v)) ∧ af_Conf aw_Sh w' ∧ af_Fr K.2.2.2.1 w w') (0, lv_args 0 As, [], w) := by
  refine (hq_holds (mz := mz) h hd hz (fun _ => 0) hC ?_ ?_ ?_).imp ?_
  · rw [hpre]
    exact hs
  · rw [hpre]
    exact fun e he => by cases he
  · rw [hpre]
    exact ⟨(fun e he => by cases he), (fun e he => by cases he), (fun e he => by cases he)⟩
  · rintro r w' ⟨q1, q2, P, hPm, ρ2, -, hst, -⟩
    exact ⟨hd_r1 hP ⟨P, hPm, _, ρ2, hst⟩, q1, q2⟩
/-- what diary of the class leaves as FAULT -/
def dc_Q (tp : Nat → Nat) (B : Nat) (NT : List nt_E) (x : Int32) (w : pi_W) (_r : Option Value) (w' : pi_W) : Prop := (¬ (0 ≤ x.toInt ∧ x.toInt ≤ 1) ∧ gv w' 1 10 = gv w 1 10) ∨ ((0 ≤ x.toInt ∧ x.toInt ≤ 1) ∧ ((dy_lines tp B 400 NT 41 0 (tq_tok tp B 400 0) = none ∧ gv w' 1 10 = 0) ∨ ∃ k p, dy_lines tp B 400 NT 41 0 (tq_tok tp B 400 0) = some (k, p) ∧ FC w' k p))
theorem dc_diary {d B nr : Nat} {tp : Nat → Nat} {A : ld_A} {NT : List nt_E} {w : pi_W} {x : Int32} (hC : af_Conf aw_Sh w) (hP : tc_P tp B w) (hV : tq_V w) (hL : CL w 5 6 A nr NT) (ho : nt_ok NT) (hcs : nt_cs NT) : hq_F (d + 7) sm145 (dc_Q tp B NT x w) (0, lv_args 0 [.ref 0, .int x], [], w) := by
  have g0 : pi_get (lv_args 0 [.ref 0, .int x]) 0 = some (.ref 0) := rfl
  have g1 : pi_get (lv_args 0 [.ref 0, .int x]) 1 = some (.int x) := rfl
  have kc0 : (((Int16.ofInt (-1000)).toInt32)).toInt = (-1000) := by decide
  have kc1 : (((Int8.ofInt (-2)).toInt32)).toInt = (-2) := by decide
  have kc2 : ((0 : Int32)).toInt = 0 := by decide
  have kc3 : ((1 : Int32)).toInt = 1 := by decide
  have kc4 : ((Int32.ofInt 0)).toInt = 0 := by decide
  have kc5 : ((Int32.ofInt 1)).toInt = 1 := by decide
  have kz := sy_z0
  refine hq_F.st (s' := (1, _, _, _)) hj145_0 rfl rfl rfl (hs_iln g1) ?_
  by_cases b1 : (x).toInt = 0
  · skip
    refine hq_F.st (s' := (13, _, _, _)) hj145_1 rfl rfl rfl (hs_if (ci_eq (by omega)) rfl) ?_
    refine hq_F.st (s' := (14, _, _, _)) hj145_13 rfl rfl rfl (hs_al g0) ?_
    refine hq_F.st (s' := (17, _, _, _)) hj145_14 rfl rfl rfl (hq_gf hC sh_0 sk_10_80 (hq_ref hC sh_0 (b := 28) rfl)) ?_
    refine hq_F.call hj145_17 rfl rfl si_10_277 (by decide) (by decide) sz_1 (sy_argsV hC sh_28 rfl rfl rfl (Nat.le_of_ble_eq_true rfl) rfl (Nat.le_of_ble_eq_true rfl) rfl (by decide)) (dc_lines (d := d) hC hP hV hL ho hcs) (fun _ _ q => by rw [q.1.1, hC.1]) ?_
    rintro r17 w1 ⟨hC1, q⟩
    try dsimp only
    rcases q with ⟨rfl, e1, z1⟩ | ⟨rfl, k, p, e1, q1⟩
    · skip
      refine hq_F.st (s' := (21, _, _, _)) hj145_20 rfl rfl rfl rfl ?_
      refine hq_F.st (s' := (22, _, _, _)) hj145_21 rfl rfl rfl (hs_al (hg_nr g0 (by decide))) ?_
      refine hq_F.st (s' := (25, _, _, _)) hj145_22 rfl rfl rfl (hq_gf hC1 sh_0 sk_10_12 (hq_ref hC1 sh_0 (b := 1) rfl)) ?_
      refine hq_F.st (s' := (26, _, _, _)) hj145_25 rfl rfl rfl rfl ?_
      refine sy_pf hj145_26 hC1 sh_1 sk_10_118 (lo := -2147483648) (hi := 2147483647) rfl (af_i32 _) rfl rfl rfl (fun w21 hC21 hw21 => ?_)
      refine hq_F.st (s' := (30, _, _, _)) hj145_29 rfl rfl rfl (hs_iln (pi_get_set _ _ _)) ?_
      refine hq_F.st (s' := (44, _, _, _)) hj145_30 rfl rfl rfl (hs_if (ci_ne (by omega)) rfl) ?_
      refine hq_F.st (s' := (45, _, _, _)) hj145_44 rfl rfl rfl (hs_iln (hg_ne g1 (by decide))) ?_
      refine hq_F.st (s' := (46, _, _, _)) hj145_45 rfl rfl rfl rfl ?_
      by_cases b46 : ¬ (x).toInt = 1
      · skip
        refine hq_F.st (s' := (72, _, _, _)) hj145_46 rfl rfl rfl (hs_ic (ci_ne (by omega)) rfl) ?_
        refine hq_F.st (s' := (73, _, _, _)) hj145_72 rfl rfl rfl (hs_al (hg_nr g0 (by decide))) ?_
        refine hq_F.st (s' := (76, _, _, _)) hj145_73 rfl rfl rfl (hq_gf hC21 sh_0 sk_10_48 (hq_ref hC21 sh_0 (b := 13) rfl)) ?_
        refine hq_F.st (s' := (77, _, _, _)) hj145_76 rfl rfl rfl (hs_al (hg_nr g0 (by decide))) ?_
        refine hq_F.st (s' := (80, _, _, _)) hj145_77 rfl rfl rfl (hq_gf hC21 sh_0 sk_10_44 (hq_ref hC21 sh_0 (b := 11) rfl)) ?_
        refine hq_F.call hj145_80 rfl rfl si_10_267 (by decide) (by decide) sz_36 (sy_argsV hC21 sh_13 rfl rfl rfl (Nat.le_of_ble_eq_true rfl) rfl (Nat.le_of_ble_eq_true rfl) rfl (by decide)) (cl_void (d := d + 6) (sh := [.inr (.inl 13), .inr (.inl 11)]) ah_205 (by omega) pz_36 hC21 rfl (⟨rfl, rfl, trivial⟩) (by decide)) (fun _ _ q => by rw [q.2.1.1, hC21.1]) ?_
        rintro r80 v1 ⟨rfl, c1, f1⟩
        try dsimp only
        refine hq_F.st (s' := (84, _, _, _)) hj145_83 rfl rfl rfl (hs_al (hg_nr g0 (by decide))) ?_
        refine hq_F.st (s' := (85, _, _, _)) hj145_84 rfl rfl rfl (hs_al (hg_nr g0 (by decide))) ?_
        refine hq_F.st (s' := (88, _, _, _)) hj145_85 rfl rfl rfl (hq_gf c1 sh_0 sk_10_48 (hq_ref c1 sh_0 (b := 13) rfl)) ?_
        refine hq_F.call hj145_88 rfl rfl si_10_280 (by decide) (by decide) sz_158 (sy_argsV c1 sh_0 rfl rfl rfl (Nat.le_of_ble_eq_true rfl) rfl (Nat.le_of_ble_eq_true rfl) rfl (by decide)) (cl_intr (d := d + 6) (sh := [.inr (.inl 0), .inr (.inl 13)]) ah_273 (by omega) pz_158 c1 rfl (⟨rfl, rfl, trivial⟩) (by decide)) (fun _ _ q => by rw [q.2.1.1, c1.1]) ?_
        rintro r88 v2 ⟨⟨u, rfl⟩, c2, f2⟩
        try dsimp only
        refine hq_F.en hj145_91 rfl (pi_ri _) ?_
        exact Or.inr ⟨by omega, Or.inl ⟨e1, by rw [gv_eq (f2 1 10 (by decide)), gv_eq (f1 1 10 (by decide)), wpv hw21, if_neg (by decide)]; exact z1⟩⟩
      · skip
        refine hq_F.st (s' := (49, _, _, _)) hj145_46 rfl rfl rfl (hs_icn (t := 72) (ci_nen (by omega)) rfl) ?_
        refine hq_F.st (s' := (50, _, _, _)) hj145_49 rfl rfl rfl (hs_al (hg_nr g0 (by decide))) ?_
        refine hq_F.st (s' := (53, _, _, _)) hj145_50 rfl rfl rfl (hq_gf hC21 sh_0 sk_10_54 (hq_ref hC21 sh_0 (b := 15) rfl)) ?_
        refine hq_F.st (s' := (54, _, _, _)) hj145_53 rfl rfl rfl (hs_al (hg_nr g0 (by decide))) ?_
        refine hq_F.st (s' := (57, _, _, _)) hj145_54 rfl rfl rfl (hq_gf hC21 sh_0 sk_10_44 (hq_ref hC21 sh_0 (b := 11) rfl)) ?_
        refine hq_F.st (s' := (60, _, _, _)) hj145_57 rfl rfl rfl (hq_gf hC21 sh_11 sk_10_163 (hq_ref hC21 sh_11 (b := 12) rfl)) ?_
        refine hq_F.call hj145_60 rfl rfl si_10_194 (by decide) (by decide) sz_72 (sy_argsV hC21 sh_15 rfl rfl rfl (Nat.le_of_ble_eq_true rfl) rfl (Nat.le_of_ble_eq_true rfl) rfl (by decide)) (cl_void (d := d + 6) (sh := [.inr (.inl 15), .inr (.inl 12)]) ah_151 (by omega) pz_72 hC21 rfl (⟨rfl, rfl, trivial⟩) (by decide)) (fun _ _ q => by rw [q.2.1.1, hC21.1]) ?_
        rintro r60 v1 ⟨rfl, c1, f1⟩
        try dsimp only
        refine hq_F.st (s' := (64, _, _, _)) hj145_63 rfl rfl rfl (hs_al (hg_nr g0 (by decide))) ?_
        refine hq_F.st (s' := (65, _, _, _)) hj145_64 rfl rfl rfl (hs_al (hg_nr g0 (by decide))) ?_
        refine hq_F.st (s' := (68, _, _, _)) hj145_65 rfl rfl rfl (hq_gf c1 sh_0 sk_10_44 (hq_ref c1 sh_0 (b := 11) rfl)) ?_
        refine hq_F.call hj145_68 rfl rfl si_10_280 (by decide) (by decide) sz_158 (sy_argsV c1 sh_0 rfl rfl rfl (Nat.le_of_ble_eq_true rfl) rfl (Nat.le_of_ble_eq_true rfl) rfl (by decide)) (cl_intr (d := d + 6) (sh := [.inr (.inl 0), .inr (.inl 11)]) ah_271 (by omega) pz_158 c1 rfl (⟨rfl, rfl, trivial⟩) (by decide)) (fun _ _ q => by rw [q.2.1.1, c1.1]) ?_
        rintro r68 v2 ⟨⟨u, rfl⟩, c2, f2⟩
        try dsimp only
        refine hq_F.en hj145_71 rfl (pi_ri _) ?_
        exact Or.inr ⟨by omega, Or.inl ⟨e1, by rw [gv_eq (f2 1 10 (by decide)), gv_eq (f1 1 10 (by decide)), wpv hw21, if_neg (by decide)]; exact z1⟩⟩
    · skip
      refine hq_F.st (s' := (21, _, _, _)) hj145_20 rfl rfl rfl rfl ?_
      refine hq_F.st (s' := (22, _, _, _)) hj145_21 rfl rfl rfl (hs_al (hg_nr g0 (by decide))) ?_
      refine hq_F.st (s' := (25, _, _, _)) hj145_22 rfl rfl rfl (hq_gf hC1 sh_0 sk_10_12 (hq_ref hC1 sh_0 (b := 1) rfl)) ?_
      refine hq_F.st (s' := (26, _, _, _)) hj145_25 rfl rfl rfl rfl ?_
      refine sy_pf hj145_26 hC1 sh_1 sk_10_118 (lo := -2147483648) (hi := 2147483647) rfl (af_i32 _) rfl rfl rfl (fun w22 hC22 hw22 => ?_)
      refine hq_F.st (s' := (30, _, _, _)) hj145_29 rfl rfl rfl (hs_iln (pi_get_set _ _ _)) ?_
      refine hq_F.st (s' := (33, _, _, _)) hj145_30 rfl rfl rfl (hs_ifn (t := 44) (ci_nen (by omega)) rfl) ?_
      refine hq_F.st (s' := (35, _, _, _)) hj145_33 rfl rfl rfl rfl ?_
      refine hq_F.st (s' := (36, _, _, _)) hj145_35 rfl rfl rfl (hs_al (hg_nr g0 (by decide))) ?_
      refine hq_F.st (s' := (39, _, _, _)) hj145_36 rfl rfl rfl (hq_gf hC22 sh_0 sk_10_12 (hq_ref hC22 sh_0 (b := 1) rfl)) ?_
      refine hq_F.st (s' := (42, _, _, _)) hj145_39 rfl rfl rfl (hq_gf hC22 sh_1 sk_10_129 (sy_v hC22 (by decide) rfl)) ?_
      have q39 : (gv w22 1 11).toInt = (gv w1 1 11).toInt := by rw [wpv hw22, if_neg (by decide)]
      refine hq_F.st (s' := (43, _, _, _)) hj145_42 rfl rfl rfl rfl ?_
      refine hq_F.en hj145_43 rfl (pi_ri _) ?_
      exact Or.inr ⟨by omega, Or.inr ⟨k, p, e1, by rw [wpv hw22, if_neg (by decide)]; exact q1.1, by rw [wpv hw22, if_neg (by decide)]; exact q1.2⟩⟩
  · skip
    refine hq_F.st (s' := (4, _, _, _)) hj145_1 rfl rfl rfl (hs_ifn (t := 13) (ci_eqn (by omega)) rfl) ?_
    refine hq_F.st (s' := (5, _, _, _)) hj145_4 rfl rfl rfl (hs_iln g1) ?_
    refine hq_F.st (s' := (6, _, _, _)) hj145_5 rfl rfl rfl rfl ?_
    by_cases b6 : (x).toInt = 1
    · skip
      refine hq_F.st (s' := (13, _, _, _)) hj145_6 rfl rfl rfl (hs_ic (ci_eq (by omega)) rfl) ?_
      refine hq_F.st (s' := (14, _, _, _)) hj145_13 rfl rfl rfl (hs_al g0) ?_
      refine hq_F.st (s' := (17, _, _, _)) hj145_14 rfl rfl rfl (hq_gf hC sh_0 sk_10_80 (hq_ref hC sh_0 (b := 28) rfl)) ?_
      refine hq_F.call hj145_17 rfl rfl si_10_277 (by decide) (by decide) sz_1 (sy_argsV hC sh_28 rfl rfl rfl (Nat.le_of_ble_eq_true rfl) rfl (Nat.le_of_ble_eq_true rfl) rfl (by decide)) (dc_lines (d := d) hC hP hV hL ho hcs) (fun _ _ q => by rw [q.1.1, hC.1]) ?_
      rintro r17 w1 ⟨hC1, q⟩
      try dsimp only
      rcases q with ⟨rfl, e1, z1⟩ | ⟨rfl, k, p, e1, q1⟩
      · skip
        refine hq_F.st (s' := (21, _, _, _)) hj145_20 rfl rfl rfl rfl ?_
        refine hq_F.st (s' := (22, _, _, _)) hj145_21 rfl rfl rfl (hs_al (hg_nr g0 (by decide))) ?_
        refine hq_F.st (s' := (25, _, _, _)) hj145_22 rfl rfl rfl (hq_gf hC1 sh_0 sk_10_12 (hq_ref hC1 sh_0 (b := 1) rfl)) ?_
        refine hq_F.st (s' := (26, _, _, _)) hj145_25 rfl rfl rfl rfl ?_
        refine sy_pf hj145_26 hC1 sh_1 sk_10_118 (lo := -2147483648) (hi := 2147483647) rfl (af_i32 _) rfl rfl rfl (fun w23 hC23 hw23 => ?_)
        refine hq_F.st (s' := (30, _, _, _)) hj145_29 rfl rfl rfl (hs_iln (pi_get_set _ _ _)) ?_
        refine hq_F.st (s' := (44, _, _, _)) hj145_30 rfl rfl rfl (hs_if (ci_ne (by omega)) rfl) ?_
        refine hq_F.st (s' := (45, _, _, _)) hj145_44 rfl rfl rfl (hs_iln (hg_ne g1 (by decide))) ?_
        refine hq_F.st (s' := (46, _, _, _)) hj145_45 rfl rfl rfl rfl ?_
        by_cases b46 : ¬ (x).toInt = 1
        · skip
          refine hq_F.st (s' := (72, _, _, _)) hj145_46 rfl rfl rfl (hs_ic (ci_ne (by omega)) rfl) ?_
          refine hq_F.st (s' := (73, _, _, _)) hj145_72 rfl rfl rfl (hs_al (hg_nr g0 (by decide))) ?_
          refine hq_F.st (s' := (76, _, _, _)) hj145_73 rfl rfl rfl (hq_gf hC23 sh_0 sk_10_48 (hq_ref hC23 sh_0 (b := 13) rfl)) ?_
          refine hq_F.st (s' := (77, _, _, _)) hj145_76 rfl rfl rfl (hs_al (hg_nr g0 (by decide))) ?_
          refine hq_F.st (s' := (80, _, _, _)) hj145_77 rfl rfl rfl (hq_gf hC23 sh_0 sk_10_44 (hq_ref hC23 sh_0 (b := 11) rfl)) ?_
          refine hq_F.call hj145_80 rfl rfl si_10_267 (by decide) (by decide) sz_36 (sy_argsV hC23 sh_13 rfl rfl rfl (Nat.le_of_ble_eq_true rfl) rfl (Nat.le_of_ble_eq_true rfl) rfl (by decide)) (cl_void (d := d + 6) (sh := [.inr (.inl 13), .inr (.inl 11)]) ah_205 (by omega) pz_36 hC23 rfl (⟨rfl, rfl, trivial⟩) (by decide)) (fun _ _ q => by rw [q.2.1.1, hC23.1]) ?_
          rintro r80 v1 ⟨rfl, c1, f1⟩
          try dsimp only
          refine hq_F.st (s' := (84, _, _, _)) hj145_83 rfl rfl rfl (hs_al (hg_nr g0 (by decide))) ?_
          refine hq_F.st (s' := (85, _, _, _)) hj145_84 rfl rfl rfl (hs_al (hg_nr g0 (by decide))) ?_
          refine hq_F.st (s' := (88, _, _, _)) hj145_85 rfl rfl rfl (hq_gf c1 sh_0 sk_10_48 (hq_ref c1 sh_0 (b := 13) rfl)) ?_
          refine hq_F.call hj145_88 rfl rfl si_10_280 (by decide) (by decide) sz_158 (sy_argsV c1 sh_0 rfl rfl rfl (Nat.le_of_ble_eq_true rfl) rfl (Nat.le_of_ble_eq_true rfl) rfl (by decide)) (cl_intr (d := d + 6) (sh := [.inr (.inl 0), .inr (.inl 13)]) ah_273 (by omega) pz_158 c1 rfl (⟨rfl, rfl, trivial⟩) (by decide)) (fun _ _ q => by rw [q.2.1.1, c1.1]) ?_
          rintro r88 v2 ⟨⟨u, rfl⟩, c2, f2⟩
          try dsimp only
          refine hq_F.en hj145_91 rfl (pi_ri _) ?_
          exact Or.inr ⟨by omega, Or.inl ⟨e1, by rw [gv_eq (f2 1 10 (by decide)), gv_eq (f1 1 10 (by decide)), wpv hw23, if_neg (by decide)]; exact z1⟩⟩
        · skip
          refine hq_F.st (s' := (49, _, _, _)) hj145_46 rfl rfl rfl (hs_icn (t := 72) (ci_nen (by omega)) rfl) ?_
          refine hq_F.st (s' := (50, _, _, _)) hj145_49 rfl rfl rfl (hs_al (hg_nr g0 (by decide))) ?_
          refine hq_F.st (s' := (53, _, _, _)) hj145_50 rfl rfl rfl (hq_gf hC23 sh_0 sk_10_54 (hq_ref hC23 sh_0 (b := 15) rfl)) ?_
          refine hq_F.st (s' := (54, _, _, _)) hj145_53 rfl rfl rfl (hs_al (hg_nr g0 (by decide))) ?_
          refine hq_F.st (s' := (57, _, _, _)) hj145_54 rfl rfl rfl (hq_gf hC23 sh_0 sk_10_44 (hq_ref hC23 sh_0 (b := 11) rfl)) ?_
          refine hq_F.st (s' := (60, _, _, _)) hj145_57 rfl rfl rfl (hq_gf hC23 sh_11 sk_10_163 (hq_ref hC23 sh_11 (b := 12) rfl)) ?_
          refine hq_F.call hj145_60 rfl rfl si_10_194 (by decide) (by decide) sz_72 (sy_argsV hC23 sh_15 rfl rfl rfl (Nat.le_of_ble_eq_true rfl) rfl (Nat.le_of_ble_eq_true rfl) rfl (by decide)) (cl_void (d := d + 6) (sh := [.inr (.inl 15), .inr (.inl 12)]) ah_151 (by omega) pz_72 hC23 rfl (⟨rfl, rfl, trivial⟩) (by decide)) (fun _ _ q => by rw [q.2.1.1, hC23.1]) ?_
          rintro r60 v1 ⟨rfl, c1, f1⟩
          try dsimp only
          refine hq_F.st (s' := (64, _, _, _)) hj145_63 rfl rfl rfl (hs_al (hg_nr g0 (by decide))) ?_
          refine hq_F.st (s' := (65, _, _, _)) hj145_64 rfl rfl rfl (hs_al (hg_nr g0 (by decide))) ?_
          refine hq_F.st (s' := (68, _, _, _)) hj145_65 rfl rfl rfl (hq_gf c1 sh_0 sk_10_44 (hq_ref c1 sh_0 (b := 11) rfl)) ?_
          refine hq_F.call hj145_68 rfl rfl si_10_280 (by decide) (by decide) sz_158 (sy_argsV c1 sh_0 rfl rfl rfl (Nat.le_of_ble_eq_true rfl) rfl (Nat.le_of_ble_eq_true rfl) rfl (by decide)) (cl_intr (d := d + 6) (sh := [.inr (.inl 0), .inr (.inl 11)]) ah_271 (by omega) pz_158 c1 rfl (⟨rfl, rfl, trivial⟩) (by decide)) (fun _ _ q => by rw [q.2.1.1, c1.1]) ?_
          rintro r68 v2 ⟨⟨u, rfl⟩, c2, f2⟩
          try dsimp only
          refine hq_F.en hj145_71 rfl (pi_ri _) ?_
          exact Or.inr ⟨by omega, Or.inl ⟨e1, by rw [gv_eq (f2 1 10 (by decide)), gv_eq (f1 1 10 (by decide)), wpv hw23, if_neg (by decide)]; exact z1⟩⟩
      · skip
        refine hq_F.st (s' := (21, _, _, _)) hj145_20 rfl rfl rfl rfl ?_
        refine hq_F.st (s' := (22, _, _, _)) hj145_21 rfl rfl rfl (hs_al (hg_nr g0 (by decide))) ?_
        refine hq_F.st (s' := (25, _, _, _)) hj145_22 rfl rfl rfl (hq_gf hC1 sh_0 sk_10_12 (hq_ref hC1 sh_0 (b := 1) rfl)) ?_
        refine hq_F.st (s' := (26, _, _, _)) hj145_25 rfl rfl rfl rfl ?_
        refine sy_pf hj145_26 hC1 sh_1 sk_10_118 (lo := -2147483648) (hi := 2147483647) rfl (af_i32 _) rfl rfl rfl (fun w24 hC24 hw24 => ?_)
        refine hq_F.st (s' := (30, _, _, _)) hj145_29 rfl rfl rfl (hs_iln (pi_get_set _ _ _)) ?_
        refine hq_F.st (s' := (33, _, _, _)) hj145_30 rfl rfl rfl (hs_ifn (t := 44) (ci_nen (by omega)) rfl) ?_
        refine hq_F.st (s' := (35, _, _, _)) hj145_33 rfl rfl rfl rfl ?_
        refine hq_F.st (s' := (36, _, _, _)) hj145_35 rfl rfl rfl (hs_al (hg_nr g0 (by decide))) ?_
        refine hq_F.st (s' := (39, _, _, _)) hj145_36 rfl rfl rfl (hq_gf hC24 sh_0 sk_10_12 (hq_ref hC24 sh_0 (b := 1) rfl)) ?_
        refine hq_F.st (s' := (42, _, _, _)) hj145_39 rfl rfl rfl (hq_gf hC24 sh_1 sk_10_129 (sy_v hC24 (by decide) rfl)) ?_
        have q39 : (gv w24 1 11).toInt = (gv w1 1 11).toInt := by rw [wpv hw24, if_neg (by decide)]
        refine hq_F.st (s' := (43, _, _, _)) hj145_42 rfl rfl rfl rfl ?_
        refine hq_F.en hj145_43 rfl (pi_ri _) ?_
        exact Or.inr ⟨by omega, Or.inr ⟨k, p, e1, by rw [wpv hw24, if_neg (by decide)]; exact q1.1, by rw [wpv hw24, if_neg (by decide)]; exact q1.2⟩⟩
    · skip
      refine hq_F.st (s' := (9, _, _, _)) hj145_6 rfl rfl rfl (hs_icn (t := 13) (ci_eqn (by omega)) rfl) ?_
      refine hq_F.st (s' := (12, _, _, _)) hj145_9 rfl rfl rfl rfl ?_
      refine hq_F.en hj145_12 rfl rfl ?_
      exact Or.inl ⟨by omega, rfl⟩
