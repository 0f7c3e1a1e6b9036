/-! ===== land and the FAULT; by program ===== -/

theorem fl_and {d : Nat} {mi : pi_M} {Q Q' : Option Value → pi_W → Prop} {s : pi_S} (h : hq_F d mi Q s) (h' : hq_F d mi Q' s) : hq_F d mi (fun r w => Q r w ∧ Q' r w) s := by
  obtain ⟨n, r, w, h1, h2⟩ := h
  obtain ⟨n', r', w', h3, h4⟩ := h'
  have e1 := pi_more (k := n + n') h1 (by omega)
  have e2 := pi_more (k := n + n') h3 (by omega)
  rw [e1] at e2
  cases e2
  exact ⟨n, r, w, h1, h2, h4⟩
/-- the FAULT that land leaves -/
def ld_fk (F : (Int × Nat) ⊕ (Nat × ls_S)) : Int := match F with
  | .inl (k, _) => k
  | .inr _ => 0
/-- the FAULT behind the class's land -/
theorem cl_ansF {d B : Nat} {tp : Nat → Nat} {w : pi_W} (hd : 1 ≤ d) (hC : af_Conf aw_Sh w) (hP : tc_P tp B w) (hV : tq_V w) : hq_F (d + 7) sm113 (fun _ w' => (∃ σ, ld_LR tp B = .inr (941, σ)) ∨ (gv w' 1 10).toInt = ld_fk (ld_LR tp B)) (0, lv_args 0 [.ref 0], [], w) := by
  have g0 : pi_get (lv_args 0 [.ref 0]) 0 = some (.ref 0) := rfl
  have kc0 : ((-1 : Int32)).toInt = (-1) := by decide
  have kc1 : ((0 : Int32)).toInt = 0 := by decide
  have kc2 : ((1 : Int32)).toInt = 1 := by decide
  have kc3 : ((Int32.ofInt (-1))).toInt = (-1) := by decide
  have kc4 : ((Int32.ofInt 0)).toInt = 0 := by decide
  have kz := sy_z0
  refine hq_F.st (s' := (1, _, _, _)) hj113_0 rfl rfl rfl (hs_al g0) ?_
  refine hq_F.st (s' := (4, _, _, _)) hj113_1 rfl rfl rfl (hq_gf hC sh_0 sk_10_31 (hq_ref hC sh_0 (b := 10) rfl)) ?_
  refine hq_F.call hj113_4 rfl rfl si_10_125 (by decide) (by decide) sz_21 (sy_argsV hC sh_10 rfl rfl rfl (Nat.le_of_ble_eq_true rfl) rfl (Nat.le_of_ble_eq_true rfl) rfl (by decide)) (fl_and (cl_lines (d := d) hC hP hV) (cf_lines (by omega) hC)) (fun _ _ q => by rw [q.1.1.1, hC.1]) ?_
  rintro r4 w1 ⟨⟨hC1, F1, q⟩, z1⟩
  try dsimp only
  rcases q with ⟨i, σ, e, rfl, hi, O1⟩ | ⟨rfl, k, p, e, q1⟩ | ⟨σ, e, rfl⟩
  · have ti : (Int32.ofNat i).toInt = (i : Int) := hn_t (by omega)
    have zf : (gv w1 1 10).toInt = 0 := by
      rcases z1 with ⟨v, hv, hv2⟩ | z1
      · cases hv
        omega
      · exact z1
    refine hq_F.st (s' := (8, _, _, _)) hj113_7 rfl rfl rfl rfl ?_
    refine hq_F.st (s' := (9, _, _, _)) hj113_8 rfl rfl rfl (hs_al (hg_nr g0 (by decide))) ?_
    refine hq_F.st (s' := (12, _, _, _)) hj113_9 rfl rfl rfl (hq_gf hC1 sh_0 sk_10_12 (hq_ref hC1 sh_0 (b := 1) rfl)) ?_
    refine hq_F.st (s' := (13, _, _, _)) hj113_12 rfl rfl rfl rfl ?_
    refine sy_pf hj113_13 hC1 sh_1 sk_10_118 (lo := -2147483648) (hi := 2147483647) rfl (af_i32 _) rfl rfl rfl (fun w21 hC21 hw21 => ?_)
    refine hq_F.st (s' := (17, _, _, _)) hj113_16 rfl rfl rfl (hs_iln (pi_get_set _ _ _)) ?_
    refine hq_F.st (s' := (18, _, _, _)) hj113_17 rfl rfl rfl rfl ?_
    refine hq_F.st (s' := (31, _, _, _)) hj113_18 rfl rfl rfl (hs_ic (ci_ne (by omega)) rfl) ?_
    refine hq_F.st (s' := (32, _, _, _)) hj113_31 rfl rfl rfl (hs_al (hg_nr g0 (by decide))) ?_
    refine hq_F.st (s' := (35, _, _, _)) hj113_32 rfl rfl rfl (hq_gf hC21 sh_0 sk_10_19 (hq_ref hC21 sh_0 (b := 4) rfl)) ?_
    refine hq_F.st (s' := (36, _, _, _)) hj113_35 rfl rfl rfl (hs_al (hg_nr g0 (by decide))) ?_
    refine hq_F.st (s' := (39, _, _, _)) hj113_36 rfl rfl rfl (hq_gf hC21 sh_0 sk_10_23 (hq_ref hC21 sh_0 (b := 7) rfl)) ?_
    refine hq_F.call hj113_39 rfl rfl si_10_132 (by decide) (by decide) sz_11 (sy_argsV hC21 sh_4 rfl rfl rfl (Nat.le_of_ble_eq_true rfl) rfl (Nat.le_of_ble_eq_true rfl) rfl (by decide)) (cl_void (d := d + 6) (sh := [.inr (.inl 4), .inr (.inl 7)]) ah_96 (by omega) pz_11 hC21 rfl (⟨rfl, rfl, trivial⟩) (by decide)) (fun _ _ q => by rw [q.2.1.1, hC21.1]) ?_
    rintro r39 v1 ⟨rfl, c1, f1⟩
    try dsimp only
    refine hq_F.st (s' := (43, _, _, _)) hj113_42 rfl rfl rfl (hs_al (hg_nr g0 (by decide))) ?_
    refine hq_F.st (s' := (46, _, _, _)) hj113_43 rfl rfl rfl (hq_gf c1 sh_0 sk_10_44 (hq_ref c1 sh_0 (b := 11) rfl)) ?_
    refine hq_F.call hj113_46 rfl rfl si_10_136 (by decide) (by decide) sz_37 (sy_argsV c1 sh_11 rfl rfl rfl (Nat.le_of_ble_eq_true rfl) rfl (Nat.le_of_ble_eq_true rfl) rfl (by decide)) (cl_void (d := d + 6) (sh := [.inr (.inl 11)]) ah_112 (by omega) pz_37 c1 rfl (⟨rfl, trivial⟩) (by decide)) (fun _ _ q => by rw [q.2.1.1, c1.1]) ?_
    rintro r46 v2 ⟨rfl, c2, f2⟩
    try dsimp only
    refine hq_F.st (s' := (50, _, _, _)) hj113_49 rfl rfl rfl (hs_al (hg_nr g0 (by decide))) ?_
    refine hq_F.st (s' := (53, _, _, _)) hj113_50 rfl rfl rfl (hq_gf c2 sh_0 sk_10_61 (hq_ref c2 sh_0 (b := 17) rfl)) ?_
    refine hq_F.call hj113_53 rfl rfl si_10_139 (by decide) (by decide) sz_80 (sy_argsV c2 sh_17 rfl rfl rfl (Nat.le_of_ble_eq_true rfl) rfl (Nat.le_of_ble_eq_true rfl) rfl (by decide)) (cl_void (d := d + 6) (sh := [.inr (.inl 17)]) ah_113 (by omega) pz_80 c2 rfl (⟨rfl, trivial⟩) (by decide)) (fun _ _ q => by rw [q.2.1.1, c2.1]) ?_
    rintro r53 v3 ⟨rfl, c3, f3⟩
    try dsimp only
    refine hq_F.st (s' := (57, _, _, _)) hj113_56 rfl rfl rfl (hs_al (hg_nr g0 (by decide))) ?_
    refine hq_F.st (s' := (60, _, _, _)) hj113_57 rfl rfl rfl (hq_gf c3 sh_0 sk_10_54 (hq_ref c3 sh_0 (b := 15) rfl)) ?_
    refine hq_F.call hj113_60 rfl rfl si_10_142 (by decide) (by decide) sz_71 (sy_argsV c3 sh_15 rfl rfl rfl (Nat.le_of_ble_eq_true rfl) rfl (Nat.le_of_ble_eq_true rfl) rfl (by decide)) (cl_void (d := d + 6) (sh := [.inr (.inl 15)]) ah_114 (by omega) pz_71 c3 rfl (⟨rfl, trivial⟩) (by decide)) (fun _ _ q => by rw [q.2.1.1, c3.1]) ?_
    rintro r60 v4 ⟨rfl, c4, f4⟩
    try dsimp only
    refine hq_F.st (s' := (64, _, _, _)) hj113_63 rfl rfl rfl (hs_iln (pi_get_set _ _ _)) ?_
    refine hq_F.en hj113_64 rfl (pi_ri _) ?_
    exact Or.inr (by rw [show ld_LR tp B = .inr (i, σ) from e, gv_eq (f4 1 10 (by decide)), gv_eq (f3 1 10 (by decide)), gv_eq (f2 1 10 (by decide)), gv_eq (f1 1 10 (by decide)), wpv hw21, if_neg (by decide)]; exact zf)
  · skip
    refine hq_F.st (s' := (8, _, _, _)) hj113_7 rfl rfl rfl rfl ?_
    refine hq_F.st (s' := (9, _, _, _)) hj113_8 rfl rfl rfl (hs_al (hg_nr g0 (by decide))) ?_
    refine hq_F.st (s' := (12, _, _, _)) hj113_9 rfl rfl rfl (hq_gf hC1 sh_0 sk_10_12 (hq_ref hC1 sh_0 (b := 1) rfl)) ?_
    refine hq_F.st (s' := (13, _, _, _)) hj113_12 rfl rfl rfl rfl ?_
    refine sy_pf hj113_13 hC1 sh_1 sk_10_118 (lo := -2147483648) (hi := 2147483647) rfl (af_i32 _) rfl rfl rfl (fun w22 hC22 hw22 => ?_)
    refine hq_F.st (s' := (17, _, _, _)) hj113_16 rfl rfl rfl (hs_iln (pi_get_set _ _ _)) ?_
    refine hq_F.st (s' := (18, _, _, _)) hj113_17 rfl rfl rfl rfl ?_
    refine hq_F.st (s' := (21, _, _, _)) hj113_18 rfl rfl rfl (hs_icn (t := 31) (ci_nen (by omega)) rfl) ?_
    refine hq_F.st (s' := (22, _, _, _)) hj113_21 rfl rfl rfl rfl ?_
    refine hq_F.st (s' := (23, _, _, _)) hj113_22 rfl rfl rfl (hs_al (hg_nr g0 (by decide))) ?_
    refine hq_F.st (s' := (26, _, _, _)) hj113_23 rfl rfl rfl (hq_gf hC22 sh_0 sk_10_12 (hq_ref hC22 sh_0 (b := 1) rfl)) ?_
    refine hq_F.st (s' := (29, _, _, _)) hj113_26 rfl rfl rfl (hq_gf hC22 sh_1 sk_10_129 (sy_v hC22 (by decide) rfl)) ?_
    have q26 : (gv w22 1 11).toInt = (gv w1 1 11).toInt := by rw [wpv hw22, if_neg (by decide)]
    refine hq_F.st (s' := (30, _, _, _)) hj113_29 rfl rfl rfl rfl ?_
    refine hq_F.en hj113_30 rfl (pi_ri _) ?_
    exact Or.inr (by rw [show ld_LR tp B = .inl (k, p) from e, wpv hw22, if_neg (by decide)]; exact q1.1)
  · skip
    refine hq_F.st (s' := (8, _, _, _)) hj113_7 rfl rfl rfl rfl ?_
    refine hq_F.st (s' := (9, _, _, _)) hj113_8 rfl rfl rfl (hs_al (hg_nr g0 (by decide))) ?_
    refine hq_F.st (s' := (12, _, _, _)) hj113_9 rfl rfl rfl (hq_gf hC1 sh_0 sk_10_12 (hq_ref hC1 sh_0 (b := 1) rfl)) ?_
    refine hq_F.st (s' := (13, _, _, _)) hj113_12 rfl rfl rfl rfl ?_
    refine sy_pf hj113_13 hC1 sh_1 sk_10_118 (lo := -2147483648) (hi := 2147483647) rfl (af_i32 _) rfl rfl rfl (fun w23 hC23 hw23 => ?_)
    refine hq_F.st (s' := (17, _, _, _)) hj113_16 rfl rfl rfl (hs_iln (pi_get_set _ _ _)) ?_
    refine hq_F.st (s' := (18, _, _, _)) hj113_17 rfl rfl rfl rfl ?_
    refine hq_F.st (s' := (21, _, _, _)) hj113_18 rfl rfl rfl (hs_icn (t := 31) (ci_nen (by omega)) rfl) ?_
    refine hq_F.st (s' := (22, _, _, _)) hj113_21 rfl rfl rfl rfl ?_
    refine hq_F.st (s' := (23, _, _, _)) hj113_22 rfl rfl rfl (hs_al (hg_nr g0 (by decide))) ?_
    refine hq_F.st (s' := (26, _, _, _)) hj113_23 rfl rfl rfl (hq_gf hC23 sh_0 sk_10_12 (hq_ref hC23 sh_0 (b := 1) rfl)) ?_
    refine hq_F.st (s' := (29, _, _, _)) hj113_26 rfl rfl rfl (hq_gf hC23 sh_1 sk_10_129 (sy_v hC23 (by decide) rfl)) ?_
    have q26 : (gv w23 1 11).toInt = (gv w1 1 11).toInt := by rw [wpv hw23, if_neg (by decide)]
    refine hq_F.st (s' := (30, _, _, _)) hj113_29 rfl rfl rfl rfl ?_
    refine hq_F.en hj113_30 rfl (pi_ri _) ?_
    exact Or.inl ⟨σ, e⟩
theorem ml_lnlF {d B M : Nat} {tp : Nat → Nat} {w0 : pi_W} {Q : Option Value → pi_W → Prop} {LR : (Int × Nat) ⊕ (Nat × ls_S)} (hd : 6 ≤ d) (hgo : ∀ (w' : pi_W) (lv' : pi_L) (i : Nat) (σ : ls_S), LR = .inr (i, σ) → i ≤ 940 → MO tp B M w' σ → ls_J σ → gv w' 61 19 = Int32.ofNat i → af_Fr mld_N w0 w' → (gv w' 61 15).toInt = 0 → pi_get lv' 0 = some (.ref 61) → hq_F (d + 6) hm192 Q (90, lv', [], w')) (hbad : ∀ (w' : pi_W) (k : Int) (p : Nat), LR = .inl (k, p) → af_Conf aw_Sh w' → af_Fr mld_N w0 w' → FM w' k p → Q (some (.int (Int32.ofInt (-1) - Int32.ofInt (p : Int)))) w') (hB : B ≤ 940) : ∀ (f i : Nat) {w : pi_W} {lv : pi_L} {σ : ls_S}, i + f = 941 → i ≤ B → (2 ≤ σ.1.1 → i < σ.1.2.2.2.2) → ls_lines tp B M f i σ = LR → MO tp B M w σ → ls_J σ → gv w 61 19 = Int32.ofNat i → af_Fr mld_N w0 w → (gv w 61 15).toInt = 0 → pi_get lv 0 = some (.ref 61) → hq_F (d + 6) hm192 Q (47, lv, [], w) := by
  intro f
  induction f with
  | zero =>
    intro i w lv σ hi hiB
    omega
  | succ f ih =>
    intro i w lv σ hi hiB hi2 hLR hO hJ hn hF hzf g0
    have hm := tq_mk_c hO.1.2.2.2.2.2.2.1 hO.1.2.2.2.2.1.1
    by_cases hz : σ.1.1 = 0
    · skip
      have kz := sy_z0
      refine hq_F.st (s' := (48, _, _, _)) hf192_47 rfl rfl rfl (hs_al g0) ?_
      refine hq_F.st (s' := (51, _, _, _)) hf192_48 rfl rfl rfl (hq_gf hO.1.1 sh_61 sk_11_152 (sy_v hO.1.1 (by decide) rfl)) ?_
      refine hq_F.st (s' := (90, _, _, _)) hf192_51 rfl rfl rfl (hs_if (ci_eq (by omega)) rfl) ?_
      exact hgo w _ i σ (by rw [← hLR, ls_lines, if_pos hz]) (by omega) hO hJ hn hF hzf g0
    · skip
      have kc0 : (((Int8.ofInt 59).toInt32)).toInt = 59 := by decide
      have kc1 : ((0 : Int32)).toInt = 0 := by decide
      have kc2 : ((1 : Int32)).toInt = 1 := by decide
      have kc3 : ((Int32.ofInt (-1))).toInt = (-1) := by decide
      have kc4 : ((Int32.ofInt 1)).toInt = 1 := by decide
      have kz := sy_z0
      refine hq_F.st (s' := (48, _, _, _)) hf192_47 rfl rfl rfl (hs_al g0) ?_
      refine hq_F.st (s' := (51, _, _, _)) hf192_48 rfl rfl rfl (hq_gf hO.1.1 sh_61 sk_11_152 (sy_v hO.1.1 (by decide) rfl)) ?_
      refine hq_F.st (s' := (54, _, _, _)) hf192_51 rfl rfl rfl (hs_ifn (t := 90) (ci_eqn (by omega)) rfl) ?_
      refine hq_F.st (s' := (55, _, _, _)) hf192_54 rfl rfl rfl (hs_al g0) ?_
      refine hq_F.call hf192_55 rfl rfl si_11_238 (by decide) (by decide) sz_188 (sy_argsV hO.1.1 sh_61 rfl rfl rfl (Nat.le_of_ble_eq_true rfl) rfl (Nat.le_of_ble_eq_true rfl) rfl (by decide)) (fl_and (ml_line (d := d) hO hJ) (mf_line (by omega) hO.1.1)) (fun _ _ q => by rw [q.1.1.1, hO.1.1.1]) ?_
      rintro r55 w1 ⟨⟨hC1, F1, q⟩, z1⟩
      try dsimp only
      rcases q with ⟨rfl, σ1, e1, O1⟩ | ⟨rfl, k, p, e1, q1⟩
      · have j1 := ls_J_line hJ hO.1.2.2.2.2.2 e1
        obtain ⟨p2, pR⟩ := ls_R_line e1
        have pE := hO.1.2.2.2.2.2.1 p2
        have pI := hi2 p2
        have zf1 : gv w1 61 15 = gv w 61 15 := by
          rcases z1 with ⟨v, hv, hv2⟩ | z1
          · cases hv
            exact absurd hv2 (by decide)
          · exact z1
        refine hq_F.st (s' := (61, _, _, _)) hf192_58 rfl rfl rfl (hs_ifn (t := 70) (ci_eqn (by omega)) rfl) ?_
        refine hq_F.st (s' := (62, _, _, _)) hf192_61 rfl rfl rfl (hs_al g0) ?_
        refine hq_F.st (s' := (64, _, _, _)) hf192_62 rfl rfl rfl rfl ?_
        refine hq_F.call hf192_64 rfl rfl si_11_241 (by decide) (by decide) sz_180 (sy_argsV hC1 sh_61 rfl rfl rfl (Nat.le_of_ble_eq_true rfl) rfl (Nat.le_of_ble_eq_true rfl) rfl (by decide)) (mt_tkS (d := d + 3) (c := 59) O1.1 (by decide)) (fun r w' q => by rcases q with ⟨_, _, q, _⟩ | ⟨_, _, q, _⟩; rw [q.1.1, hC1.1]; rw [q.1.1, hC1.1]) ?_
        rintro r64 w2 q
        try dsimp only
        rcases q with ⟨rfl, s2, h2, F2⟩ | ⟨rfl, s2, h2, F2, q2⟩
        · skip
          refine hq_F.st (s' := (77, _, _, _)) hf192_67 rfl rfl rfl (hs_if (ci_ne (by omega)) rfl) ?_
          refine hq_F.st (s' := (78, _, _, _)) hf192_77 rfl rfl rfl (hs_al g0) ?_
          refine hq_F.st (s' := (79, _, _, _)) hf192_78 rfl rfl rfl rfl ?_
          refine hq_F.st (s' := (82, _, _, _)) hf192_79 rfl rfl rfl (hq_gf h2.1 sh_61 sk_11_235 (sy_v h2.1 (by decide) rfl)) ?_
          refine hq_F.st (s' := (83, _, _, _)) hf192_82 rfl rfl rfl rfl ?_
          refine hq_F.st (s' := (84, _, _, _)) hf192_83 rfl rfl rfl rfl ?_
          refine sy_pf hf192_84 h2.1 sh_61 sk_11_235 (lo := -2147483648) (hi := 2147483647) rfl (af_i32 _) rfl rfl rfl (fun w21 hC21 hw21 => ?_)
          refine hq_F.st (s' := (47, _, _, _)) hf192_87 rfl rfl rfl rfl ?_
          refine ih (i + 1) (by omega) (by omega) (fun q => ?_) (σ := (tq_nx tp B M σ1.1, σ1.2)) (by rw [← hLR, ls_lines, if_neg hz, e1, ls_br]; exact (if_pos (decide_eq_true s2)).symm) ⟨h2.fr hC21 (wpF hw21) rfl, ?_⟩ j1 ?_ (hF.tr ((F1.cov (by decide)).tr ((F2.cov (by decide)).tr ((wpF hw21).cov (by decide))))) ?_ g0
          · have h3 : σ1.1.2.2.2.2 < (tq_nx tp B M σ1.1).2.2.2.2 := tq_tok_e q
            have h4 := pR (by omega)
            show i + 1 < (tq_nx tp B M σ1.1).2.2.2.2
            omega
          · have q : MLx w1 σ1.2.1 σ1.2.2.1 σ1.2.2.2 σ1.2.2.2 := O1.2
            exact (q.fr F2 (by decide) (by decide)).fr (wpF hw21) (by decide) (by decide)
          · rw [wpv hw21, if_pos ⟨rfl, rfl⟩, gv_eq (F2 61 19 (by decide)), gv_eq (F1 61 19 (by decide)), hn, hn_s]
          · rw [wpv hw21, if_neg (by decide), gv_eq (F2 61 15 (by decide)), zf1]
            exact hzf
        · skip
          refine hq_F.st (s' := (70, _, _, _)) hf192_67 rfl rfl rfl (hs_ifn (t := 77) (ci_nen (by omega)) rfl) ?_
          refine hq_F.st (s' := (71, _, _, _)) hf192_70 rfl rfl rfl rfl ?_
          refine hq_F.st (s' := (72, _, _, _)) hf192_71 rfl rfl rfl (hs_al g0) ?_
          refine hq_F.st (s' := (75, _, _, _)) hf192_72 rfl rfl rfl (hq_gf h2.1 sh_61 sk_11_172 (sy_v h2.1 (by decide) rfl)) ?_
          refine hq_F.st (s' := (76, _, _, _)) hf192_75 rfl rfl rfl rfl ?_
          refine hq_F.en hf192_76 rfl (pi_ri _) ?_
          rw [ld_oi q2.2]
          exact hbad w2 1 σ1.1.2.1 (by rw [← hLR, ls_lines, if_neg hz, e1, ls_br]; exact if_neg (fun q => s2 (of_decide_eq_true q))) h2.1 (hF.tr ((F1.cov (by decide)).tr (F2.cov (by decide)))) q2
      · skip
        refine hq_F.st (s' := (70, _, _, _)) hf192_58 rfl rfl rfl (hs_if (ci_eq (by omega)) rfl) ?_
        refine hq_F.st (s' := (71, _, _, _)) hf192_70 rfl rfl rfl rfl ?_
        refine hq_F.st (s' := (72, _, _, _)) hf192_71 rfl rfl rfl (hs_al g0) ?_
        refine hq_F.st (s' := (75, _, _, _)) hf192_72 rfl rfl rfl (hq_gf hC1 sh_61 sk_11_172 (sy_v hC1 (by decide) rfl)) ?_
        refine hq_F.st (s' := (76, _, _, _)) hf192_75 rfl rfl rfl rfl ?_
        refine hq_F.en hf192_76 rfl (pi_ri _) ?_
        rw [ld_oi q1.2]
        exact hbad w1 k p (by rw [← hLR, ls_lines, if_neg hz, e1, ls_bl]) hC1 (hF.tr (F1.cov (by decide))) q1
theorem ml_landF {d B : Nat} {tp : Nat → Nat} {w : pi_W} {Q : Option Value → pi_W → Prop} (hd : 6 ≤ d) (hC : af_Conf aw_Sh w) (hB : (gv w 61 2).toInt = (B : Int)) (ht : ∀ n, n < 940 → (tm_b w n).toInt = (tp n : Int)) (hV : tq_Vm w) (hgo : ∀ (w' : pi_W) (lv' : pi_L) (i : Nat) (σ : ls_S), ls_lines tp B 900 941 0 (tq_tok tp B 900 0, ld_0, 0, []) = .inr (i, σ) → i ≤ 940 → MO tp B 900 w' σ → ls_J σ → gv w' 61 19 = Int32.ofNat i → af_Fr mld_N w w' → (gv w' 61 15).toInt = 0 → pi_get lv' 0 = some (.ref 61) → hq_F (d + 6) hm192 Q (90, lv', [], w')) (hbad : ∀ (w' : pi_W) (k : Int) (p : Nat), ls_lines tp B 900 941 0 (tq_tok tp B 900 0, ld_0, 0, []) = .inl (k, p) → af_Conf aw_Sh w' → af_Fr mld_N w w' → FM w' k p → Q (some (.int (Int32.ofInt (-1) - Int32.ofInt (p : Int)))) w') : hq_F (d + 6) hm192 Q (0, lv_args 0 [.ref 61], [], w) := by
  have hB9 : B ≤ 940 := by
    have := sy_b hC (c := 61) (i := 2) (lo := 0) (hi := 940) (by decide) rfl
    omega
  have g0 : pi_get (lv_args 0 [.ref 61]) 0 = some (.ref 61) := rfl
  have kc0 : (((Int16.ofInt 900).toInt32)).toInt = 900 := by decide
  have kc1 : ((Int32.ofInt 0)).toInt = 0 := by decide
  have kz := sy_z0
  refine hq_F.st (s' := (1, _, _, _)) hf192_0 rfl rfl rfl (hs_al g0) ?_
  refine hq_F.st (s' := (2, _, _, _)) hf192_1 rfl rfl rfl rfl ?_
  refine sy_pf hf192_2 hC sh_61 sk_11_1 (lo := -2147483648) (hi := 2147483647) rfl (af_i32 _) rfl rfl rfl (fun w21 hC21 hw21 => ?_)
  refine hq_F.st (s' := (6, _, _, _)) hf192_5 rfl rfl rfl (hs_al g0) ?_
  refine hq_F.st (s' := (9, _, _, _)) hf192_6 rfl rfl rfl rfl ?_
  refine hq_F.call hf192_9 rfl rfl si_11_232 (by decide) (by decide) sz_166 (sy_argsV hC21 sh_61 rfl rfl rfl (Nat.le_of_ble_eq_true rfl) rfl (Nat.le_of_ble_eq_true rfl) rfl (by decide)) (ml_tkn hC21 (by decide)) (fun _ _ q => by rw [q.2.1.1, hC21.1]) ?_
  rintro r9 wt ⟨rfl, hCt, Ft, t3, t4, t5⟩
  try dsimp only
  refine hq_F.st (s' := (13, _, _, _)) hf192_12 rfl rfl rfl (hs_al g0) ?_
  refine hq_F.st (s' := (14, _, _, _)) hf192_13 rfl rfl rfl rfl ?_
  refine sy_pf hf192_14 hCt sh_61 sk_11_169 (lo := -2147483648) (hi := 2147483647) rfl (af_i32 _) rfl rfl rfl (fun w22 hC22 hw22 => ?_)
  refine hq_F.st (s' := (18, _, _, _)) hf192_17 rfl rfl rfl (hs_al g0) ?_
  refine hq_F.st (s' := (19, _, _, _)) hf192_18 rfl rfl rfl rfl ?_
  refine sy_pf hf192_19 hC22 sh_61 sk_11_235 (lo := -2147483648) (hi := 2147483647) rfl (af_i32 _) rfl rfl rfl (fun w23 hC23 hw23 => ?_)
  refine hq_F.st (s' := (23, _, _, _)) hf192_22 rfl rfl rfl rfl ?_
  refine hq_F.st (s' := (24, _, _, _)) hf192_23 rfl rfl rfl rfl ?_
  have FA : af_Fr [(61, 0, 1), (61, 2, 6), (61, 15, 16), (61, 19, 20)] w w23 := (((wpF hw21).cov (by decide)).tr (((Ft).cov (by decide)).tr (((wpF hw22).cov (by decide)).tr ((wpF hw23).cov (by decide)))))
  have a3 : (gv w23 61 3).toInt = (B : Int) := by rw [wpv hw23, if_neg (by decide), wpv hw22, if_neg (by decide), t3, wpv hw21, if_neg (by decide)]; exact hB
  have a4 : (gv w23 61 4).toInt = ((0 : Nat) : Int) := by rw [wpv hw23, if_neg (by decide), wpv hw22, if_neg (by decide)]; exact t4
  have a5 : (gv w23 61 5).toInt = ((900 : Nat) : Int) := by rw [wpv hw23, if_neg (by decide), wpv hw22, if_neg (by decide)]; exact t5
  have a19 : gv w23 61 19 = Int32.ofNat 0 := by rw [wpv hw23, if_pos ⟨rfl, rfl⟩]; rfl
  have a15 : (gv w23 61 15).toInt = 0 := by rw [wpv hw23, if_neg (by decide), wpv hw22, if_pos ⟨rfl, rfl⟩]; decide
  refine ml_hz (w0 := w23) ?_ 115 0 (by omega) hC23 (af_Fr.rf _ _) (fun j hj => by omega) (hg_nr g0 (by decide)) (pi_get_set _ _ _)
  intro wz lvz hCz Fz hz gz
  refine hq_F.st (s' := (44, _, _, _)) hf192_43 rfl rfl rfl (hs_al gz) ?_
  have hPz : tm_P tp B wz := ⟨by rw [gv_eq (hq_cell Fz (by decide))]; exact a3, hB9, fun n hn => by unfold tm_b; rw [gv_eq (hq_cell Fz (by decide)), gv_eq (hq_cell FA (by decide))]; exact ht n hn⟩
  have hVz : tq_Vm wz := fun k hk => by rw [gl_eq (hq_cell Fz (by decide)), gl_eq (hq_cell FA (by decide))]; exact hV k hk
  refine hq_F.call hf192_44 rfl rfl si_11_181 (by decide) (by decide) sz_176 (sy_argsV hCz sh_61 rfl rfl rfl (Nat.le_of_ble_eq_true rfl) rfl (Nat.le_of_ble_eq_true rfl) rfl (by decide)) (tm_176 (d := d + 4) (i := 0) hCz hPz (by rw [gv_eq (hq_cell Fz (by decide))]; exact a5) (by rw [gv_eq (hq_cell Fz (by decide))]; exact a4) (by omega)) (fun _ _ q => by rw [q.2.1.1, hCz.1]) ?_
  rintro r44 w6 ⟨rfl, hC6, F6, A6⟩
  try dsimp only
  have hM6 : MT tp B 900 w6 (tq_tok tp B 900 0) := ⟨hC6, hPz.fr F6 (by decide) (by decide), by rw [gv_eq (F6 61 5 (by decide)), gv_eq (hq_cell Fz (by decide))]; exact a5, fun k hk => by rw [gl_eq (hq_cell F6 (by decide))]; exact hVz k hk, tm_ok (tq_sk_le (Nat.zero_le _)).2 A6, tq_tok_W (Nat.zero_le _)⟩
  refine ml_lnlF (d := d) (M := 900) (w0 := w) hd hgo hbad hB9 941 0 (by omega) (by omega) (fun q => tq_tok_e q) rfl ⟨hM6, ((MLx.zero hz).fr F6 (by decide) (by decide))⟩ ls_J0 ?_ ((FA.cov (by decide)).tr ((Fz.cov (by decide)).tr (F6.cov (by decide)))) ?_ gz
  · rw [gv_eq (F6 61 19 (by decide)), gv_eq (hq_cell Fz (by decide))]
    exact a19
  · rw [gv_eq (F6 61 15 (by decide)), gv_eq (hq_cell Fz (by decide))]
    exact a15
/-- the FAULT behind the model's land -/
theorem ml_ansF {d B : Nat} {tp : Nat → Nat} {w : pi_W} (hd : 6 ≤ d) (hC : af_Conf aw_Sh w) (hB : (gv w 61 2).toInt = (B : Int)) (ht : ∀ n, n < 940 → (tm_b w n).toInt = (tp n : Int)) (hV : tq_Vm w) : hq_F (d + 6) hm192 (fun _ w' => (gv w' 61 15).toInt = ld_fk (ld_LR tp B) ∧ ∀ σ, ld_LR tp B ≠ .inr (941, σ)) (0, lv_args 0 [.ref 61], [], w) := by
  refine ml_landF hd hC hB ht hV (fun w' lv' i σ e hi hO hJ hn hF hzf g0 => ?_) (fun w' k p e hC' hF hq => ?_)
  · refine ml_end (d := d + 5) (by omega) hO.1.1 g0 (fun w1 w2 _ f1 _ f2 => ?_)
    refine ⟨?_, fun σ' q => ?_⟩
    · rw [show ld_LR tp B = .inr (i, σ) from e, gv_eq (f2 61 15 (by decide)), gv_eq (hq_cell f1 (by decide))]
      exact hzf
    · have q2 := e.symm.trans q
      cases q2
      omega
  · refine ⟨?_, fun σ' q => ?_⟩
    · rw [show ld_LR tp B = .inl (k, p) from e]
      exact hq.1
    · have q2 := e.symm.trans q
      cases q2
