/-! ===== the class: land; by program ===== -/
theorem sk_10_118 : pi_look pi_fT 10 118 = some (9, 2, 170) := rfl
theorem sk_10_12 : pi_look pi_fT 10 12 = some (10, 0, 401) := rfl
theorem sk_10_129 : pi_look pi_fT 10 129 = some (9, 11, 190) := rfl
theorem sk_10_19 : pi_look pi_fT 10 19 = some (10, 1, 402) := rfl
theorem sk_10_23 : pi_look pi_fT 10 23 = some (10, 2, 403) := rfl
theorem sk_10_31 : pi_look pi_fT 10 31 = some (10, 3, 404) := rfl
theorem sk_10_44 : pi_look pi_fT 10 44 = some (10, 4, 405) := rfl
theorem sk_10_54 : pi_look pi_fT 10 54 = some (10, 6, 407) := rfl
theorem sk_10_61 : pi_look pi_fT 10 61 = some (10, 7, 408) := rfl
theorem si_10_125 : pi_look pi_iT 10 125 = some (2, 21, 0, 475) := rfl
theorem si_10_132 : pi_look pi_iT 10 132 = some (2, 11, 1, 625) := rfl
theorem si_10_136 : pi_look pi_iT 10 136 = some (2, 37, 0, 638) := rfl
theorem si_10_139 : pi_look pi_iT 10 139 = some (2, 80, 0, 656) := rfl
theorem si_10_142 : pi_look pi_iT 10 142 = some (2, 71, 0, 660) := rfl
def sm113 : pi_M := (10, 2, (some .int), false, mc_113)
def sf_0 : List (Nat ⊕ (Int × Int) ⊕ Unit) := match (aw_Sh[0]? : Option af_C) with
  | some (.inr (_, f)) => f
  | _ => []
theorem sh_0 : aw_Sh[0]? = some (.inr (10, sf_0)) := rfl
def sf_11 : List (Nat ⊕ (Int × Int) ⊕ Unit) := match (aw_Sh[11]? : Option af_C) with
  | some (.inr (_, f)) => f
  | _ => []
theorem sh_11 : aw_Sh[11]? = some (.inr (4, sf_11)) := rfl
def sf_15 : List (Nat ⊕ (Int × Int) ⊕ Unit) := match (aw_Sh[15]? : Option af_C) with
  | some (.inr (_, f)) => f
  | _ => []
theorem sh_15 : aw_Sh[15]? = some (.inr (5, sf_15)) := rfl
def sf_17 : List (Nat ⊕ (Int × Int) ⊕ Unit) := match (aw_Sh[17]? : Option af_C) with
  | some (.inr (_, f)) => f
  | _ => []
theorem sh_17 : aw_Sh[17]? = some (.inr (7, sf_17)) := rfl
set_option maxRecDepth 100000 in
theorem sz_11 : pi_mt[11]? = some (mn_11, prog_4_method_3_code, (2, 2, none, false, mc_11)) := rfl
set_option maxRecDepth 100000 in
theorem sz_113 : pi_mt[113]? = some (mn_113, prog_1_method_4_code, (10, 2, (some .int), false, mc_113)) := rfl
set_option maxRecDepth 100000 in
theorem sz_37 : pi_mt[37]? = some (mn_37, prog_6_method_3_code, (4, 2, none, false, mc_37)) := rfl
set_option maxRecDepth 100000 in
theorem sz_71 : pi_mt[71]? = some (mn_71, prog_7_method_2_code, (5, 1, none, false, mc_71)) := rfl
set_option maxRecDepth 100000 in
theorem sz_80 : pi_mt[80]? = some (mn_80, prog_9_method_2_code, (7, 1, none, false, mc_80)) := rfl
theorem hj113_0 : pi_fetch mc_113 0 = some (.aload_n 0, 1) := rfl
theorem hj113_1 : pi_fetch mc_113 1 = some (.getfield 31, 3) := rfl
theorem hj113_4 : pi_fetch mc_113 4 = some (.invokevirtual 125, 3) := rfl
theorem hj113_7 : pi_fetch mc_113 7 = some (.istore_n 1, 1) := rfl
theorem hj113_8 : pi_fetch mc_113 8 = some (.aload_n 0, 1) := rfl
theorem hj113_9 : pi_fetch mc_113 9 = some (.getfield 12, 3) := rfl
theorem hj113_12 : pi_fetch mc_113 12 = some (.iconst 0, 1) := rfl
theorem hj113_13 : pi_fetch mc_113 13 = some (.putfield 118, 3) := rfl
theorem hj113_16 : pi_fetch mc_113 16 = some (.iload_n 1, 1) := rfl
theorem hj113_17 : pi_fetch mc_113 17 = some (.iconst (-1), 1) := rfl
theorem hj113_18 : pi_fetch mc_113 18 = some (.if_icmp .ne 13, 3) := rfl
theorem hj113_21 : pi_fetch mc_113 21 = some (.iconst (-1), 1) := rfl
theorem hj113_22 : pi_fetch mc_113 22 = some (.aload_n 0, 1) := rfl
theorem hj113_23 : pi_fetch mc_113 23 = some (.getfield 12, 3) := rfl
theorem hj113_26 : pi_fetch mc_113 26 = some (.getfield 129, 3) := rfl
theorem hj113_29 : pi_fetch mc_113 29 = some (.isub, 1) := rfl
theorem hj113_30 : pi_fetch mc_113 30 = some (.ireturn, 1) := rfl
theorem hj113_31 : pi_fetch mc_113 31 = some (.aload_n 0, 1) := rfl
theorem hj113_32 : pi_fetch mc_113 32 = some (.getfield 19, 3) := rfl
theorem hj113_35 : pi_fetch mc_113 35 = some (.aload_n 0, 1) := rfl
theorem hj113_36 : pi_fetch mc_113 36 = some (.getfield 23, 3) := rfl
theorem hj113_39 : pi_fetch mc_113 39 = some (.invokevirtual 132, 3) := rfl
theorem hj113_42 : pi_fetch mc_113 42 = some (.aload_n 0, 1) := rfl
theorem hj113_43 : pi_fetch mc_113 43 = some (.getfield 44, 3) := rfl
theorem hj113_46 : pi_fetch mc_113 46 = some (.invokevirtual 136, 3) := rfl
theorem hj113_49 : pi_fetch mc_113 49 = some (.aload_n 0, 1) := rfl
theorem hj113_50 : pi_fetch mc_113 50 = some (.getfield 61, 3) := rfl
theorem hj113_53 : pi_fetch mc_113 53 = some (.invokevirtual 139, 3) := rfl
theorem hj113_56 : pi_fetch mc_113 56 = some (.aload_n 0, 1) := rfl
theorem hj113_57 : pi_fetch mc_113 57 = some (.getfield 54, 3) := rfl
theorem hj113_60 : pi_fetch mc_113 60 = some (.invokevirtual 142, 3) := rfl
theorem hj113_63 : pi_fetch mc_113 63 = some (.iload_n 1, 1) := rfl
theorem hj113_64 : pi_fetch mc_113 64 = some (.ireturn, 1) := rfl
theorem cl_void {d d' : Nat} {K : af_K} {y : MethodName} {cc : ByteArray} {mz : pi_M} {sh : List (af_F ⊕ Nat ⊕ Unit)} {As : List Value} {w : pi_W} (h : af_Holds aw_Sh d' K) (hd : d' ≤ d) (hz : pi_mt[K.1]? = some (y, cc, mz)) (hC : af_Conf aw_Sh w) (hpre : K.2.2.1 = (0, sh, [], ([], [], []))) (hs : af_St 0 (fun _ => 0) sh As) (hP : (K.2.2.2.2.all (fun P => P.2.1.isEmpty)) = true) : hq_F d mz (fun r w' => r = none ∧ af_Conf aw_Sh w' ∧ af_Fr K.2.2.2.1 w w') (0, lv_args 0 As, [], w) := by
  refine (hq_holds (mz := mz) h hd hz (fun _ => 0) hC ?_ ?_ ?_).imp ?_
  · rw [hpre]
    exact hs
  · rw [hpre]
    exact fun e he => by cases he
  · rw [hpre]
    exact ⟨(fun e he => by cases he), (fun e he => by cases he), (fun e he => by cases he)⟩
  · rintro r w' ⟨q1, q2, P, hPm, ρ2, -, hst, -⟩
    have hP0 : P.2.1 = [] := List.isEmpty_iff.mp (List.all_eq_true.mp hP P hPm)
    rw [hP0] at hst
    have hn := af_St.nil hst
    refine ⟨?_, q1, q2⟩
    cases r with
    | none => rfl
    | some v => cases hn
/-- the class answers so -/
theorem cl_ans {d B : Nat} {tp : Nat → Nat} {w : pi_W} (hC : af_Conf aw_Sh w) (hP : tc_P tp B w) (hV : tq_V w) : hq_F (d + 7) sm113 (fun r _ => (∃ σ, ld_LR tp B = .inr (941, σ)) ∨ r = some (.int (ld_val (ld_LR tp B)))) (0, lv_args 0 [.ref 0], [], w) := by
  have g0 : pi_get (lv_args 0 [.ref 0]) 0 = some (.ref 0) := rfl
  have kc0 : ((-1 : Int32)).toInt = (-1) := by decide
  have kc1 : ((0 : Int32)).toInt = 0 := by decide
  have kc2 : ((1 : Int32)).toInt = 1 := by decide
  have kc3 : ((Int32.ofInt (-1))).toInt = (-1) := by decide
  have kc4 : ((Int32.ofInt 0)).toInt = 0 := by decide
  have kz := sy_z0
  refine hq_F.st (s' := (1, _, _, _)) hj113_0 rfl rfl rfl (hs_al g0) ?_
  refine hq_F.st (s' := (4, _, _, _)) hj113_1 rfl rfl rfl (hq_gf hC sh_0 sk_10_31 (hq_ref hC sh_0 (b := 10) rfl)) ?_
  refine hq_F.call hj113_4 rfl rfl si_10_125 (by decide) (by decide) sz_21 (sy_argsV hC sh_10 rfl rfl rfl (Nat.le_of_ble_eq_true rfl) rfl (Nat.le_of_ble_eq_true rfl) rfl (by decide)) (cl_lines (d := d) hC hP hV) (fun _ _ q => by rw [q.1.1, hC.1]) ?_
  rintro r4 w1 ⟨hC1, F1, q⟩
  try dsimp only
  rcases q with ⟨i, σ, e, rfl, hi, O1⟩ | ⟨rfl, k, p, e, q1⟩ | ⟨σ, e, rfl⟩
  · have ti : (Int32.ofNat i).toInt = (i : Int) := hn_t (by omega)
    refine hq_F.st (s' := (8, _, _, _)) hj113_7 rfl rfl rfl rfl ?_
    refine hq_F.st (s' := (9, _, _, _)) hj113_8 rfl rfl rfl (hs_al (hg_nr g0 (by decide))) ?_
    refine hq_F.st (s' := (12, _, _, _)) hj113_9 rfl rfl rfl (hq_gf hC1 sh_0 sk_10_12 (hq_ref hC1 sh_0 (b := 1) rfl)) ?_
    refine hq_F.st (s' := (13, _, _, _)) hj113_12 rfl rfl rfl rfl ?_
    refine sy_pf hj113_13 hC1 sh_1 sk_10_118 (lo := -2147483648) (hi := 2147483647) rfl (af_i32 _) rfl rfl rfl (fun w21 hC21 hw21 => ?_)
    refine hq_F.st (s' := (17, _, _, _)) hj113_16 rfl rfl rfl (hs_iln (pi_get_set _ _ _)) ?_
    refine hq_F.st (s' := (18, _, _, _)) hj113_17 rfl rfl rfl rfl ?_
    refine hq_F.st (s' := (31, _, _, _)) hj113_18 rfl rfl rfl (hs_ic (ci_ne (by omega)) rfl) ?_
    refine hq_F.st (s' := (32, _, _, _)) hj113_31 rfl rfl rfl (hs_al (hg_nr g0 (by decide))) ?_
    refine hq_F.st (s' := (35, _, _, _)) hj113_32 rfl rfl rfl (hq_gf hC21 sh_0 sk_10_19 (hq_ref hC21 sh_0 (b := 4) rfl)) ?_
    refine hq_F.st (s' := (36, _, _, _)) hj113_35 rfl rfl rfl (hs_al (hg_nr g0 (by decide))) ?_
    refine hq_F.st (s' := (39, _, _, _)) hj113_36 rfl rfl rfl (hq_gf hC21 sh_0 sk_10_23 (hq_ref hC21 sh_0 (b := 7) rfl)) ?_
    refine hq_F.call hj113_39 rfl rfl si_10_132 (by decide) (by decide) sz_11 (sy_argsV hC21 sh_4 rfl rfl rfl (Nat.le_of_ble_eq_true rfl) rfl (Nat.le_of_ble_eq_true rfl) rfl (by decide)) (cl_void (d := d + 6) (sh := [.inr (.inl 4), .inr (.inl 7)]) ah_96 (by omega) pz_11 hC21 rfl (⟨rfl, rfl, trivial⟩) (by decide)) (fun _ _ q => by rw [q.2.1.1, hC21.1]) ?_
    rintro r39 v1 ⟨rfl, c1, f1⟩
    try dsimp only
    refine hq_F.st (s' := (43, _, _, _)) hj113_42 rfl rfl rfl (hs_al (hg_nr g0 (by decide))) ?_
    refine hq_F.st (s' := (46, _, _, _)) hj113_43 rfl rfl rfl (hq_gf c1 sh_0 sk_10_44 (hq_ref c1 sh_0 (b := 11) rfl)) ?_
    refine hq_F.call hj113_46 rfl rfl si_10_136 (by decide) (by decide) sz_37 (sy_argsV c1 sh_11 rfl rfl rfl (Nat.le_of_ble_eq_true rfl) rfl (Nat.le_of_ble_eq_true rfl) rfl (by decide)) (cl_void (d := d + 6) (sh := [.inr (.inl 11)]) ah_112 (by omega) pz_37 c1 rfl (⟨rfl, trivial⟩) (by decide)) (fun _ _ q => by rw [q.2.1.1, c1.1]) ?_
    rintro r46 v2 ⟨rfl, c2, f2⟩
    try dsimp only
    refine hq_F.st (s' := (50, _, _, _)) hj113_49 rfl rfl rfl (hs_al (hg_nr g0 (by decide))) ?_
    refine hq_F.st (s' := (53, _, _, _)) hj113_50 rfl rfl rfl (hq_gf c2 sh_0 sk_10_61 (hq_ref c2 sh_0 (b := 17) rfl)) ?_
    refine hq_F.call hj113_53 rfl rfl si_10_139 (by decide) (by decide) sz_80 (sy_argsV c2 sh_17 rfl rfl rfl (Nat.le_of_ble_eq_true rfl) rfl (Nat.le_of_ble_eq_true rfl) rfl (by decide)) (cl_void (d := d + 6) (sh := [.inr (.inl 17)]) ah_113 (by omega) pz_80 c2 rfl (⟨rfl, trivial⟩) (by decide)) (fun _ _ q => by rw [q.2.1.1, c2.1]) ?_
    rintro r53 v3 ⟨rfl, c3, f3⟩
    try dsimp only
    refine hq_F.st (s' := (57, _, _, _)) hj113_56 rfl rfl rfl (hs_al (hg_nr g0 (by decide))) ?_
    refine hq_F.st (s' := (60, _, _, _)) hj113_57 rfl rfl rfl (hq_gf c3 sh_0 sk_10_54 (hq_ref c3 sh_0 (b := 15) rfl)) ?_
    refine hq_F.call hj113_60 rfl rfl si_10_142 (by decide) (by decide) sz_71 (sy_argsV c3 sh_15 rfl rfl rfl (Nat.le_of_ble_eq_true rfl) rfl (Nat.le_of_ble_eq_true rfl) rfl (by decide)) (cl_void (d := d + 6) (sh := [.inr (.inl 15)]) ah_114 (by omega) pz_71 c3 rfl (⟨rfl, trivial⟩) (by decide)) (fun _ _ q => by rw [q.2.1.1, c3.1]) ?_
    rintro r60 v4 ⟨rfl, c4, f4⟩
    try dsimp only
    refine hq_F.st (s' := (64, _, _, _)) hj113_63 rfl rfl rfl (hs_iln (pi_get_set _ _ _)) ?_
    refine hq_F.en hj113_64 rfl (pi_ri _) ?_
    exact Or.inr (by rw [show ld_LR tp B = .inr (i, σ) from e]; rfl)
  · skip
    refine hq_F.st (s' := (8, _, _, _)) hj113_7 rfl rfl rfl rfl ?_
    refine hq_F.st (s' := (9, _, _, _)) hj113_8 rfl rfl rfl (hs_al (hg_nr g0 (by decide))) ?_
    refine hq_F.st (s' := (12, _, _, _)) hj113_9 rfl rfl rfl (hq_gf hC1 sh_0 sk_10_12 (hq_ref hC1 sh_0 (b := 1) rfl)) ?_
    refine hq_F.st (s' := (13, _, _, _)) hj113_12 rfl rfl rfl rfl ?_
    refine sy_pf hj113_13 hC1 sh_1 sk_10_118 (lo := -2147483648) (hi := 2147483647) rfl (af_i32 _) rfl rfl rfl (fun w22 hC22 hw22 => ?_)
    refine hq_F.st (s' := (17, _, _, _)) hj113_16 rfl rfl rfl (hs_iln (pi_get_set _ _ _)) ?_
    refine hq_F.st (s' := (18, _, _, _)) hj113_17 rfl rfl rfl rfl ?_
    refine hq_F.st (s' := (21, _, _, _)) hj113_18 rfl rfl rfl (hs_icn (t := 31) (ci_nen (by omega)) rfl) ?_
    refine hq_F.st (s' := (22, _, _, _)) hj113_21 rfl rfl rfl rfl ?_
    refine hq_F.st (s' := (23, _, _, _)) hj113_22 rfl rfl rfl (hs_al (hg_nr g0 (by decide))) ?_
    refine hq_F.st (s' := (26, _, _, _)) hj113_23 rfl rfl rfl (hq_gf hC22 sh_0 sk_10_12 (hq_ref hC22 sh_0 (b := 1) rfl)) ?_
    refine hq_F.st (s' := (29, _, _, _)) hj113_26 rfl rfl rfl (hq_gf hC22 sh_1 sk_10_129 (sy_v hC22 (by decide) rfl)) ?_
    have q26 : (gv w22 1 11).toInt = (gv w1 1 11).toInt := by rw [wpv hw22, if_neg (by decide)]
    refine hq_F.st (s' := (30, _, _, _)) hj113_29 rfl rfl rfl rfl ?_
    refine hq_F.en hj113_30 rfl (pi_ri _) ?_
    rw [show gv w22 1 11 = Int32.ofInt (p : Int) from by rw [wpv hw22, if_neg (by decide)]; exact ld_oi q1.2]
    exact Or.inr (by rw [show ld_LR tp B = .inl (k, p) from e]; rfl)
  · skip
    refine hq_F.st (s' := (8, _, _, _)) hj113_7 rfl rfl rfl rfl ?_
    refine hq_F.st (s' := (9, _, _, _)) hj113_8 rfl rfl rfl (hs_al (hg_nr g0 (by decide))) ?_
    refine hq_F.st (s' := (12, _, _, _)) hj113_9 rfl rfl rfl (hq_gf hC1 sh_0 sk_10_12 (hq_ref hC1 sh_0 (b := 1) rfl)) ?_
    refine hq_F.st (s' := (13, _, _, _)) hj113_12 rfl rfl rfl rfl ?_
    refine sy_pf hj113_13 hC1 sh_1 sk_10_118 (lo := -2147483648) (hi := 2147483647) rfl (af_i32 _) rfl rfl rfl (fun w23 hC23 hw23 => ?_)
    refine hq_F.st (s' := (17, _, _, _)) hj113_16 rfl rfl rfl (hs_iln (pi_get_set _ _ _)) ?_
    refine hq_F.st (s' := (18, _, _, _)) hj113_17 rfl rfl rfl rfl ?_
    refine hq_F.st (s' := (21, _, _, _)) hj113_18 rfl rfl rfl (hs_icn (t := 31) (ci_nen (by omega)) rfl) ?_
    refine hq_F.st (s' := (22, _, _, _)) hj113_21 rfl rfl rfl rfl ?_
    refine hq_F.st (s' := (23, _, _, _)) hj113_22 rfl rfl rfl (hs_al (hg_nr g0 (by decide))) ?_
    refine hq_F.st (s' := (26, _, _, _)) hj113_23 rfl rfl rfl (hq_gf hC23 sh_0 sk_10_12 (hq_ref hC23 sh_0 (b := 1) rfl)) ?_
    refine hq_F.st (s' := (29, _, _, _)) hj113_26 rfl rfl rfl (hq_gf hC23 sh_1 sk_10_129 (sy_v hC23 (by decide) rfl)) ?_
    have q26 : (gv w23 1 11).toInt = (gv w1 1 11).toInt := by rw [wpv hw23, if_neg (by decide)]
    refine hq_F.st (s' := (30, _, _, _)) hj113_29 rfl rfl rfl rfl ?_
    refine hq_F.en hj113_30 rfl (pi_ri _) ?_
    exact Or.inl ⟨σ, e⟩
