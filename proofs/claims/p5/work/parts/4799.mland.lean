/-! ===== the model: land; by program ===== -/
theorem sk_11_1 : pi_look pi_fT 11 1 = some (11, 0, 1247) := rfl
theorem sk_11_235 : pi_look pi_fT 11 235 = some (11, 19, 1266) := rfl
theorem sk_11_33 : pi_look pi_fT 11 33 = some (11, 6, 1253) := rfl
theorem sk_11_7 : pi_look pi_fT 11 7 = some (11, 2, 1249) := rfl
theorem si_11_232 : pi_look pi_iT 11 232 = some (2, 166, 1, 1388) := rfl
theorem si_11_238 : pi_look pi_iT 11 238 = some (2, 188, 0, 1406) := rfl
theorem si_11_241 : pi_look pi_iT 11 241 = some (2, 180, 1, 1468) := rfl
def sm166 : pi_M := (11, 2, none, false, mc_166)
set_option maxRecDepth 100000 in
theorem sz_166 : pi_mt[166]? = some (mn_166, prog_13_method_6_code, (11, 2, none, false, mc_166)) := rfl
theorem hg166_0 : pi_fetch mc_166 0 = some (.aload_n 0, 1) := rfl
theorem hg166_1 : pi_fetch mc_166 1 = some (.aload_n 0, 1) := rfl
theorem hg166_2 : pi_fetch mc_166 2 = some (.getfield 7, 3) := rfl
theorem hg166_5 : pi_fetch mc_166 5 = some (.putfield 18, 3) := rfl
theorem hg166_8 : pi_fetch mc_166 8 = some (.aload_n 0, 1) := rfl
theorem hg166_9 : pi_fetch mc_166 9 = some (.iconst 0, 1) := rfl
theorem hg166_10 : pi_fetch mc_166 10 = some (.putfield 7, 3) := rfl
theorem hg166_13 : pi_fetch mc_166 13 = some (.aload_n 0, 1) := rfl
theorem hg166_14 : pi_fetch mc_166 14 = some (.iconst 0, 1) := rfl
theorem hg166_15 : pi_fetch mc_166 15 = some (.putfield 21, 3) := rfl
theorem hg166_18 : pi_fetch mc_166 18 = some (.aload_n 0, 1) := rfl
theorem hg166_19 : pi_fetch mc_166 19 = some (.iload_n 1, 1) := rfl
theorem hg166_20 : pi_fetch mc_166 20 = some (.putfield 24, 3) := rfl
theorem hg166_23 : pi_fetch mc_166 23 = some (.return_, 1) := rfl
theorem ml_tkn {d : Nat} {w : pi_W} {x : Int32} (hC : af_Conf aw_Sh w) (hx : x.toInt = 900) : hq_F d sm166 (fun r w' => r = none ∧ af_Conf aw_Sh w' ∧ af_Fr [(61, 2, 6)] w w' ∧ gv w' 61 3 = gv w 61 2 ∧ (gv w' 61 4).toInt = 0 ∧ (gv w' 61 5).toInt = 900) (0, lv_args 0 [.ref 61, .int x], [], w) := by
  have hb2 := sy_b hC (c := 61) (i := 2) (lo := 0) (hi := 940) (by decide) rfl
  have g0 : pi_get (lv_args 0 [.ref 61, .int x]) 0 = some (.ref 61) := rfl
  have g1 : pi_get (lv_args 0 [.ref 61, .int x]) 1 = some (.int x) := rfl
  have kc0 : ((Int32.ofInt 0)).toInt = 0 := by decide
  have kz := sy_z0
  refine hq_F.st (s' := (1, _, _, _)) hg166_0 rfl rfl rfl (hs_al g0) ?_
  refine hq_F.st (s' := (2, _, _, _)) hg166_1 rfl rfl rfl (hs_al g0) ?_
  refine hq_F.st (s' := (5, _, _, _)) hg166_2 rfl rfl rfl (hq_gf hC sh_61 sk_11_7 (sy_v hC (by decide) rfl)) ?_
  refine sy_pf hg166_5 hC sh_61 sk_11_18 (lo := 0) (hi := 940) rfl (by omega) rfl rfl rfl (fun w1 hC1 hw1 => ?_)
  refine hq_F.st (s' := (9, _, _, _)) hg166_8 rfl rfl rfl (hs_al g0) ?_
  refine hq_F.st (s' := (10, _, _, _)) hg166_9 rfl rfl rfl rfl ?_
  refine sy_pf hg166_10 hC1 sh_61 sk_11_7 (lo := 0) (hi := 940) rfl (by omega) rfl rfl rfl (fun w2 hC2 hw2 => ?_)
  refine hq_F.st (s' := (14, _, _, _)) hg166_13 rfl rfl rfl (hs_al g0) ?_
  refine hq_F.st (s' := (15, _, _, _)) hg166_14 rfl rfl rfl rfl ?_
  refine sy_pf hg166_15 hC2 sh_61 sk_11_21 (lo := 0) (hi := 940) rfl (by omega) rfl rfl rfl (fun w3 hC3 hw3 => ?_)
  refine hq_F.st (s' := (19, _, _, _)) hg166_18 rfl rfl rfl (hs_al g0) ?_
  refine hq_F.st (s' := (20, _, _, _)) hg166_19 rfl rfl rfl (hs_iln g1) ?_
  refine sy_pf hg166_20 hC3 sh_61 sk_11_24 (lo := 0) (hi := 900) rfl (by omega) rfl rfl rfl (fun w4 hC4 hw4 => ?_)
  refine hq_F.en hg166_23 rfl rfl ?_
  exact ⟨rfl, hC4, (((wpF hw1).cov (by decide)).tr (((wpF hw2).cov (by decide)).tr (((wpF hw3).cov (by decide)).tr ((wpF hw4).cov (by decide))))), by rw [wpv hw4, if_neg (by decide), wpv hw3, if_neg (by decide), wpv hw2, if_neg (by decide), wpv hw1, if_pos ⟨rfl, rfl⟩], by rw [wpv hw4, if_neg (by decide), wpv hw3, if_pos ⟨rfl, rfl⟩]; decide, by rw [wpv hw4, if_pos ⟨rfl, rfl⟩]; exact hx⟩
theorem sn_z8 : ∀ k, k < 115 → (match af_seg sf_64 k with | some q => decide (q.1 ≤ 0 ∧ 0 ≤ q.2) | none => true) = true := by decide +kernel
theorem sn_z {k : Nat} (hk : k < 115) : ∀ q, af_seg sf_64 k = some q → q.1 ≤ (Int32.ofInt 0).toInt ∧ (Int32.ofInt 0).toInt ≤ q.2 := fun q hq => by
  have := sn_z8 k hk
  rw [hq] at this
  exact of_decide_eq_true this
theorem ml_hz {d : Nat} {w0 : pi_W} {Q : Option Value → pi_W → Prop} (hQ : ∀ (w : pi_W) (lv : pi_L), af_Conf aw_Sh w → af_Fr [(64, 0, 115)] w0 w → (∀ j, j < 115 → gv w 64 j = 0) → pi_get lv 0 = some (.ref 61) → hq_F d hm192 Q (43, lv, [], w)) : ∀ (n k : Nat) {w : pi_W} {lv : pi_L}, k + n = 115 → af_Conf aw_Sh w → af_Fr [(64, 0, 115)] w0 w → (∀ j, j < k → gv w 64 j = 0) → pi_get lv 0 = some (.ref 61) → pi_get lv 1 = some (.int (Int32.ofNat k)) → hq_F d hm192 Q (24, lv, [], w) := by
  intro n
  induction n with
  | zero =>
    intro k w lv hk hC hF hz g0 g1
    have tk : (Int32.ofNat k).toInt = (k : Int) := hn_t (by omega)
    have kc0 : (((Int8.ofInt 115).toInt32)).toInt = 115 := by decide
    have kz := sy_z0
    refine hq_F.st (s' := (25, _, _, _)) hf192_24 rfl rfl rfl (hs_iln g1) ?_
    refine hq_F.st (s' := (27, _, _, _)) hf192_25 rfl rfl rfl rfl ?_
    refine hq_F.st (s' := (43, _, _, _)) hf192_27 rfl rfl rfl (hs_ic (ci_ge (by omega)) rfl) ?_
    exact hQ w _ hC hF (fun j hj => hz j (by omega)) g0
  | succ n ih =>
    intro k w lv hk hC hF hz g0 g1
    have tk : (Int32.ofNat k).toInt = (k : Int) := hn_t (by omega)
    have kc0 : (((Int8.ofInt 115).toInt32)).toInt = 115 := by decide
    have kc1 : ((Int32.ofInt 0)).toInt = 0 := by decide
    have kz := sy_z0
    refine hq_F.st (s' := (25, _, _, _)) hf192_24 rfl rfl rfl (hs_iln g1) ?_
    refine hq_F.st (s' := (27, _, _, _)) hf192_25 rfl rfl rfl rfl ?_
    refine hq_F.st (s' := (30, _, _, _)) hf192_27 rfl rfl rfl (hs_icn (t := 43) (ci_gen (by omega)) rfl) ?_
    refine hq_F.st (s' := (31, _, _, _)) hf192_30 rfl rfl rfl (hs_al g0) ?_
    refine hq_F.st (s' := (34, _, _, _)) hf192_31 rfl rfl rfl (hq_gf hC sh_61 sk_11_37 (hq_ref hC sh_61 (b := 64) rfl)) ?_
    refine hq_F.st (s' := (35, _, _, _)) hf192_34 rfl rfl rfl (hs_iln g1) ?_
    refine hq_F.st (s' := (36, _, _, _)) hf192_35 rfl rfl rfl rfl ?_
    refine sy_isv hf192_36 hC sh_64 (n := k) tk (by omega) (sn_z (by omega)) (fun w1 hC1 hw1 => ?_)
    refine hq_F.st (s' := (40, _, _, _)) hf192_37 rfl rfl rfl (hs_inc g1 (by decide)) ?_
    refine hq_F.st (s' := (24, _, _, _)) hf192_40 rfl rfl rfl rfl ?_
    refine ih (k + 1) (by omega) hC1 (hF.tr (hq_fr1 hw1 (by omega))) (fun j hj => ?_) (hg_nr g0 (by decide)) (by rw [← hn_s]; exact (pi_get_set _ _ _))
    rw [wpv hw1]
    by_cases e : j = k
    · rw [if_pos ⟨rfl, e⟩]
      rfl
    · rw [if_neg (fun q => e q.2)]
      exact hz j (by omega)
def mld_N : af_M := [(61, 0, 1), (61, 2, 6), (61, 11, 20), (64, 0, 115), (66, 27, 54)]
theorem ld_oi {x : Int32} {p : Nat} (h : x.toInt = (p : Int)) : x = Int32.ofInt (p : Int) := by rw [← h, Int32.ofInt_toInt]
theorem ml_lnl {d B M : Nat} {tp : Nat → Nat} {w0 : pi_W} {Q : Option Value → pi_W → Prop} {LR : (Int × Nat) ⊕ (Nat × ls_S)} (hgo : ∀ (w' : pi_W) (lv' : pi_L) (i : Nat) (σ : ls_S), LR = .inr (i, σ) → i ≤ 940 → MO tp B M w' σ → ls_J σ → gv w' 61 19 = Int32.ofNat i → af_Fr mld_N w0 w' → pi_get lv' 0 = some (.ref 61) → hq_F (d + 6) hm192 Q (90, lv', [], w')) (hbad : ∀ (w' : pi_W) (k : Int) (p : Nat), LR = .inl (k, p) → af_Conf aw_Sh w' → af_Fr mld_N w0 w' → FM w' k p → Q (some (.int (Int32.ofInt (-1) - Int32.ofInt (p : Int)))) w') (hB : B ≤ 940) : ∀ (f i : Nat) {w : pi_W} {lv : pi_L} {σ : ls_S}, i + f = 941 → i ≤ B → (2 ≤ σ.1.1 → i < σ.1.2.2.2.2) → ls_lines tp B M f i σ = LR → MO tp B M w σ → ls_J σ → gv w 61 19 = Int32.ofNat i → af_Fr mld_N w0 w → pi_get lv 0 = some (.ref 61) → hq_F (d + 6) hm192 Q (47, lv, [], w) := by
  intro f
  induction f with
  | zero =>
    intro i w lv σ hi hiB
    omega
  | succ f ih =>
    intro i w lv σ hi hiB hi2 hLR hO hJ hn hF g0
    have hm := tq_mk_c hO.1.2.2.2.2.2.2.1 hO.1.2.2.2.2.1.1
    by_cases hz : σ.1.1 = 0
    · skip
      have kz := sy_z0
      refine hq_F.st (s' := (48, _, _, _)) hf192_47 rfl rfl rfl (hs_al g0) ?_
      refine hq_F.st (s' := (51, _, _, _)) hf192_48 rfl rfl rfl (hq_gf hO.1.1 sh_61 sk_11_152 (sy_v hO.1.1 (by decide) rfl)) ?_
      refine hq_F.st (s' := (90, _, _, _)) hf192_51 rfl rfl rfl (hs_if (ci_eq (by omega)) rfl) ?_
      exact hgo w _ i σ (by rw [← hLR, ls_lines, if_pos hz]) (by omega) hO hJ hn hF g0
    · skip
      have kc0 : (((Int8.ofInt 59).toInt32)).toInt = 59 := by decide
      have kc1 : ((0 : Int32)).toInt = 0 := by decide
      have kc2 : ((1 : Int32)).toInt = 1 := by decide
      have kc3 : ((Int32.ofInt (-1))).toInt = (-1) := by decide
      have kc4 : ((Int32.ofInt 1)).toInt = 1 := by decide
      have kz := sy_z0
      refine hq_F.st (s' := (48, _, _, _)) hf192_47 rfl rfl rfl (hs_al g0) ?_
      refine hq_F.st (s' := (51, _, _, _)) hf192_48 rfl rfl rfl (hq_gf hO.1.1 sh_61 sk_11_152 (sy_v hO.1.1 (by decide) rfl)) ?_
      refine hq_F.st (s' := (54, _, _, _)) hf192_51 rfl rfl rfl (hs_ifn (t := 90) (ci_eqn (by omega)) rfl) ?_
      refine hq_F.st (s' := (55, _, _, _)) hf192_54 rfl rfl rfl (hs_al g0) ?_
      refine hq_F.call hf192_55 rfl rfl si_11_238 (by decide) (by decide) sz_188 (sy_argsV hO.1.1 sh_61 rfl rfl rfl (Nat.le_of_ble_eq_true rfl) rfl (Nat.le_of_ble_eq_true rfl) rfl (by decide)) (ml_line (d := d) hO hJ) (fun _ _ q => by rw [q.1.1, hO.1.1.1]) ?_
      rintro r55 w1 ⟨hC1, F1, q⟩
      try dsimp only
      rcases q with ⟨rfl, σ1, e1, O1⟩ | ⟨rfl, k, p, e1, q1⟩
      · have j1 := ls_J_line hJ hO.1.2.2.2.2.2 e1
        obtain ⟨p2, pR⟩ := ls_R_line e1
        have pE := hO.1.2.2.2.2.2.1 p2
        have pI := hi2 p2
        refine hq_F.st (s' := (61, _, _, _)) hf192_58 rfl rfl rfl (hs_ifn (t := 70) (ci_eqn (by omega)) rfl) ?_
        refine hq_F.st (s' := (62, _, _, _)) hf192_61 rfl rfl rfl (hs_al g0) ?_
        refine hq_F.st (s' := (64, _, _, _)) hf192_62 rfl rfl rfl rfl ?_
        refine hq_F.call hf192_64 rfl rfl si_11_241 (by decide) (by decide) sz_180 (sy_argsV hC1 sh_61 rfl rfl rfl (Nat.le_of_ble_eq_true rfl) rfl (Nat.le_of_ble_eq_true rfl) rfl (by decide)) (mt_tkS (d := d + 3) (c := 59) O1.1 (by decide)) (fun r w' q => by rcases q with ⟨_, _, q, _⟩ | ⟨_, _, q, _⟩; rw [q.1.1, hC1.1]; rw [q.1.1, hC1.1]) ?_
        rintro r64 w2 q
        try dsimp only
        rcases q with ⟨rfl, s2, h2, F2⟩ | ⟨rfl, s2, h2, F2, q2⟩
        · skip
          refine hq_F.st (s' := (77, _, _, _)) hf192_67 rfl rfl rfl (hs_if (ci_ne (by omega)) rfl) ?_
          refine hq_F.st (s' := (78, _, _, _)) hf192_77 rfl rfl rfl (hs_al g0) ?_
          refine hq_F.st (s' := (79, _, _, _)) hf192_78 rfl rfl rfl rfl ?_
          refine hq_F.st (s' := (82, _, _, _)) hf192_79 rfl rfl rfl (hq_gf h2.1 sh_61 sk_11_235 (sy_v h2.1 (by decide) rfl)) ?_
          refine hq_F.st (s' := (83, _, _, _)) hf192_82 rfl rfl rfl rfl ?_
          refine hq_F.st (s' := (84, _, _, _)) hf192_83 rfl rfl rfl rfl ?_
          refine sy_pf hf192_84 h2.1 sh_61 sk_11_235 (lo := -2147483648) (hi := 2147483647) rfl (af_i32 _) rfl rfl rfl (fun w21 hC21 hw21 => ?_)
          refine hq_F.st (s' := (47, _, _, _)) hf192_87 rfl rfl rfl rfl ?_
          refine ih (i + 1) (by omega) (by omega) (fun q => ?_) (σ := (tq_nx tp B M σ1.1, σ1.2)) (by rw [← hLR, ls_lines, if_neg hz, e1, ls_br]; exact (if_pos (decide_eq_true s2)).symm) ⟨h2.fr hC21 (wpF hw21) rfl, ?_⟩ j1 ?_ (hF.tr ((F1.cov (by decide)).tr ((F2.cov (by decide)).tr ((wpF hw21).cov (by decide))))) g0
          · have h3 : σ1.1.2.2.2.2 < (tq_nx tp B M σ1.1).2.2.2.2 := tq_tok_e q
            have h4 := pR (by omega)
            show i + 1 < (tq_nx tp B M σ1.1).2.2.2.2
            omega
          · have q : MLx w1 σ1.2.1 σ1.2.2.1 σ1.2.2.2 σ1.2.2.2 := O1.2
            exact (q.fr F2 (by decide) (by decide)).fr (wpF hw21) (by decide) (by decide)
          · rw [wpv hw21, if_pos ⟨rfl, rfl⟩, gv_eq (F2 61 19 (by decide)), gv_eq (F1 61 19 (by decide)), hn, hn_s]
        · skip
          refine hq_F.st (s' := (70, _, _, _)) hf192_67 rfl rfl rfl (hs_ifn (t := 77) (ci_nen (by omega)) rfl) ?_
          refine hq_F.st (s' := (71, _, _, _)) hf192_70 rfl rfl rfl rfl ?_
          refine hq_F.st (s' := (72, _, _, _)) hf192_71 rfl rfl rfl (hs_al g0) ?_
          refine hq_F.st (s' := (75, _, _, _)) hf192_72 rfl rfl rfl (hq_gf h2.1 sh_61 sk_11_172 (sy_v h2.1 (by decide) rfl)) ?_
          refine hq_F.st (s' := (76, _, _, _)) hf192_75 rfl rfl rfl rfl ?_
          refine hq_F.en hf192_76 rfl (pi_ri _) ?_
          rw [ld_oi q2.2]
          exact hbad w2 1 σ1.1.2.1 (by rw [← hLR, ls_lines, if_neg hz, e1, ls_br]; exact if_neg (fun q => s2 (of_decide_eq_true q))) h2.1 (hF.tr ((F1.cov (by decide)).tr (F2.cov (by decide)))) q2
      · skip
        refine hq_F.st (s' := (70, _, _, _)) hf192_58 rfl rfl rfl (hs_if (ci_eq (by omega)) rfl) ?_
        refine hq_F.st (s' := (71, _, _, _)) hf192_70 rfl rfl rfl rfl ?_
        refine hq_F.st (s' := (72, _, _, _)) hf192_71 rfl rfl rfl (hs_al g0) ?_
        refine hq_F.st (s' := (75, _, _, _)) hf192_72 rfl rfl rfl (hq_gf hC1 sh_61 sk_11_172 (sy_v hC1 (by decide) rfl)) ?_
        refine hq_F.st (s' := (76, _, _, _)) hf192_75 rfl rfl rfl rfl ?_
        refine hq_F.en hf192_76 rfl (pi_ri _) ?_
        rw [ld_oi q1.2]
        exact hbad w1 k p (by rw [← hLR, ls_lines, if_neg hz, e1, ls_bl]) hC1 (hF.tr (F1.cov (by decide))) q1
theorem ml_r0 {k : Nat} (h1 : k < 411) (h2 : 115 ≤ k) : ∀ q, af_seg hq_S63 k = some q → q.1 ≤ (Int32.ofInt 0).toInt ∧ (Int32.ofInt 0).toInt ≤ q.2 := fun q hq => by
  have e := hq_063 k h1 h2
  rw [hq] at e
  simp only [Bool.and_eq_true, decide_eq_true_eq] at e
  exact e
theorem ml_r1 {w : pi_W} {k : Nat} (hC : af_Conf aw_Sh w) (h1 : k < 115) : ∀ q, af_seg hq_S63 k = some q → q.1 ≤ (gv w 64 k).toInt ∧ (gv w 64 k).toInt ≤ q.2 := fun q hq => by
  obtain ⟨sf, hsf⟩ := hq_arrb hC hq_s64 (by decide)
  obtain ⟨hs1, q', hs2, hs3⟩ := hsf k (by omega)
  rw [← hq_6463 k (by omega), hs2] at hq
  cases hq
  rw [gv_of hs1]
  exact hs3
theorem ml_cp {d : Nat} {w0 : pi_W} {Q : Option Value → pi_W → Prop} (hQ : ∀ (w : pi_W) (lv : pi_L), af_Conf aw_Sh w → af_Fr [(63, 0, 411)] w0 w → (∀ j, j < 411 → gv w 63 j = if j < 115 then gv w0 64 j else 0) → pi_get lv 0 = some (.ref 61) → hq_F d hm192 Q (127, lv, [], w)) : ∀ (n k : Nat) {w : pi_W} {lv : pi_L}, k + n = 411 → af_Conf aw_Sh w → af_Fr [(63, 0, 411)] w0 w → (∀ j, j < k → gv w 63 j = if j < 115 then gv w0 64 j else 0) → pi_get lv 0 = some (.ref 61) → pi_get lv 1 = some (.int (Int32.ofNat k)) → hq_F d hm192 Q (92, lv, [], w) := by
  intro n
  induction n with
  | zero =>
    intro k w lv hk hC hF hj2 g0 g1
    have tk : (Int32.ofNat k).toInt = (k : Int) := hn_t (by omega)
    have kc0 : (((Int16.ofInt 411).toInt32)).toInt = 411 := by decide
    have kz := sy_z0
    refine hq_F.st (s' := (93, _, _, _)) hf192_92 rfl rfl rfl (hs_iln g1) ?_
    refine hq_F.st (s' := (96, _, _, _)) hf192_93 rfl rfl rfl rfl ?_
    refine hq_F.st (s' := (127, _, _, _)) hf192_96 rfl rfl rfl (hs_ic (ci_ge (by omega)) rfl) ?_
    exact hQ w _ hC hF (fun j hj => hj2 j (by omega)) g0
  | succ n ih =>
    intro k w lv hk hC hF hj2 g0 g1
    have tk : (Int32.ofNat k).toInt = (k : Int) := hn_t (by omega)
    have kc0 : (((Int16.ofInt 411).toInt32)).toInt = 411 := by decide
    have kc1 : (((Int8.ofInt 115).toInt32)).toInt = 115 := by decide
    have kc2 : ((Int32.ofInt 0)).toInt = 0 := by decide
    have kz := sy_z0
    refine hq_F.st (s' := (93, _, _, _)) hf192_92 rfl rfl rfl (hs_iln g1) ?_
    refine hq_F.st (s' := (96, _, _, _)) hf192_93 rfl rfl rfl rfl ?_
    refine hq_F.st (s' := (99, _, _, _)) hf192_96 rfl rfl rfl (hs_icn (t := 127) (ci_gen (by omega)) rfl) ?_
    refine hq_F.st (s' := (100, _, _, _)) hf192_99 rfl rfl rfl (hs_al g0) ?_
    refine hq_F.st (s' := (103, _, _, _)) hf192_100 rfl rfl rfl (hq_gf hC sh_61 sk_11_33 (hq_ref hC sh_61 (b := 63) rfl)) ?_
    refine hq_F.st (s' := (104, _, _, _)) hf192_103 rfl rfl rfl (hs_iln g1) ?_
    refine hq_F.st (s' := (105, _, _, _)) hf192_104 rfl rfl rfl (hs_iln g1) ?_
    refine hq_F.st (s' := (107, _, _, _)) hf192_105 rfl rfl rfl rfl ?_
    by_cases b107 : 115 ≤ ((Int32.ofNat k)).toInt
    · skip
      refine hq_F.st (s' := (119, _, _, _)) hf192_107 rfl rfl rfl (hs_ic (ci_ge (by omega)) rfl) ?_
      refine hq_F.st (s' := (120, _, _, _)) hf192_119 rfl rfl rfl rfl ?_
      refine sy_isv hf192_120 hC hq_s63 (n := k) tk (by omega) (ml_r0 (by omega) (by omega)) (fun w1 hC1 hw1 => ?_)
      refine hq_F.st (s' := (124, _, _, _)) hf192_121 rfl rfl rfl (hs_inc g1 (by decide)) ?_
      refine hq_F.st (s' := (92, _, _, _)) hf192_124 rfl rfl rfl rfl ?_
      refine ih (k + 1) (by omega) hC1 (hF.tr (hq_fr1 hw1 (by omega))) (fun j hj => ?_) (hg_nr g0 (by decide)) (by rw [← hn_s]; exact (pi_get_set _ _ _))
      rw [wpv hw1]
      by_cases e : j = k
      · rw [if_pos ⟨rfl, e⟩, if_neg (by omega)]
        rfl
      · rw [if_neg (fun q => e q.2)]
        exact hj2 j (by omega)
    · skip
      refine hq_F.st (s' := (110, _, _, _)) hf192_107 rfl rfl rfl (hs_icn (t := 119) (ci_gen (by omega)) rfl) ?_
      refine hq_F.st (s' := (111, _, _, _)) hf192_110 rfl rfl rfl (hs_al g0) ?_
      refine hq_F.st (s' := (114, _, _, _)) hf192_111 rfl rfl rfl (hq_gf hC sh_61 sk_11_37 (hq_ref hC sh_61 (b := 64) rfl)) ?_
      refine hq_F.st (s' := (115, _, _, _)) hf192_114 rfl rfl rfl (hs_iln g1) ?_
      refine hq_F.st (s' := (116, _, _, _)) hf192_115 rfl rfl rfl (sy_iav hC sh_64 (n := k) tk (by omega)) ?_
      refine hq_F.st (s' := (120, _, _, _)) hf192_116 rfl rfl rfl rfl ?_
      refine sy_isv hf192_120 hC hq_s63 (n := k) tk (by omega) (ml_r1 hC (by omega)) (fun w1 hC1 hw1 => ?_)
      refine hq_F.st (s' := (124, _, _, _)) hf192_121 rfl rfl rfl (hs_inc g1 (by decide)) ?_
      refine hq_F.st (s' := (92, _, _, _)) hf192_124 rfl rfl rfl rfl ?_
      refine ih (k + 1) (by omega) hC1 (hF.tr (hq_fr1 hw1 (by omega))) (fun j hj => ?_) (hg_nr g0 (by decide)) (by rw [← hn_s]; exact (pi_get_set _ _ _))
      rw [wpv hw1]
      by_cases e : j = k
      · rw [if_pos ⟨rfl, e⟩, if_pos (by omega), e]
        exact gv_eq (hq_cell hF (by decide))
      · rw [if_neg (fun q => e q.2)]
        exact hj2 j (by omega)
def lz_G : af_G := ((11, 2, (some .int), mc_192), aw_Sh, [ak_400], 0, [(61, 22, 23), (63, 120, 126), (63, 138, 220), (66, 0, 27)], [], [(129, (1, [(0, .inr (.inl 61)), (1, .inl (0, [0]))], [], [((63, 230), (0, []))], ([(0, 0, 27)], [], [])), [(4, 0, (0, [])), (2147483647, 1, (0, [0])), (0, 0, (0, []))]),
  (158, (1, [(0, .inr (.inl 61)), (1, .inl (0, [0]))], [], [((63, 230), (0, []))], ([(0, 0, 10)], [], [])), [(3, 0, (0, [])), (2147483647, 1, (0, [0])), (0, 0, (0, []))]),
  (191, (1, [(0, .inr (.inl 61)), (1, .inl (0, [0]))], [], [((63, 230), (0, []))], ([(0, 0, 6)], [], [])), [(2, 0, (0, [])), (2147483647, 1, (0, [0])), (0, 0, (0, []))]),
  (227, (1, [(0, .inr (.inl 61)), (1, .inl (0, [0]))], [], [((63, 230), (0, []))], ([(0, 0, 6)], [], [])), [(1, 0, (0, [])), (2147483647, 1, (0, [0])), (0, 0, (0, []))]),
  (253, (1, [(0, .inr (.inl 61)), (1, .inl (0, [0]))], [], [((63, 230), (0, []))], ([(0, 0, 6)], [], [])), [(0, 0, (0, []))])], [(63, 0, 230), (63, 231, 411)], [])
def lz_s : af_S := (0, [(0, .inr (.inl 61))], [], [((63, 230), (0, []))], ([], [], []))
set_option maxRecDepth 1000000 in
theorem lz_r : af_run 26 lz_G none (127, lz_s) = true := by decide +kernel
set_option maxRecDepth 1000000 in
theorem lz_l : (lz_G.2.2.2.2.2.2.1.take 4).all (fun q => af_pos q.2.1.2.2.2.2 q.2.2 && af_run 26 lz_G (some q.2.2) (q.1, q.2.1)) = true := by decide +kernel
theorem lz_w : ax_wf lz_G.2.2.2.1 lz_G.2.2.2.2.2.1 lz_G.2.2.2.2.2.2.1 = true := by decide +kernel
theorem lz_h : ∀ K ∈ lz_G.2.2.1, af_Holds lz_G.2.1 4 K := (af_HC ah_400 (by decide) af_HN)
theorem ml_end {d : Nat} {w0 : pi_W} {lv0 : pi_L} {Q : Option Value → pi_W → Prop} (hd : 4 ≤ d) (hC0 : af_Conf aw_Sh w0) (g0 : pi_get lv0 0 = some (.ref 61)) (hQ : ∀ w1 w', af_Conf aw_Sh w' → af_Fr [(63, 0, 411)] w0 w1 → (∀ j, j < 411 → gv w1 63 j = if j < 115 then gv w0 64 j else 0) → af_Fr [(61, 22, 23), (63, 120, 126), (63, 138, 220), (66, 0, 27)] w1 w' → Q (some (.int (gv w0 61 19))) w') : hq_F (d + 1) hm192 Q (90, lv0, [], w0) := by
  refine hq_F.st (s' := (91, lv0, [.int (Int32.ofNat 0)], w0)) hf192_90 rfl rfl rfl rfl ?_
  refine hq_F.st (s' := (92, pi_set lv0 1 (.int (Int32.ofNat 0)), [], w0)) hf192_91 rfl rfl rfl rfl ?_
  refine ml_cp (w0 := w0) ?_ 411 0 (by omega) hC0 (af_Fr.rf _ _) (fun j hj => by omega) (hg_nr g0 (by decide)) (pi_get_set _ _ _)
  intro w3 lv3 hC3 hF3 hcp q0
  have h230 : af_wloc w3 63 230 = some (.int 0) := by
    rw [sy_v hC3 (c := 63) (i := 230) (lo := 0) (hi := 45) (by decide) rfl, hcp 230 (by decide), if_neg (by decide)]
  have hSat3 : af_Sat aw_Sh (fun _ => 0) lz_s (127, lv3, [], w3) := by
    refine ⟨hl_L0 q0, trivial, hC3, ?_, hl_N0⟩
    intro e he
    simp only [lz_s, List.mem_singleton] at he
    subst he
    exact hl_sl (by intro v hv; cases hv) h230 (by decide) rfl
  refine ax_seg (Φ := hq_F _ _ _) (G := lz_G) (d := d) (mi := hm192) (nl := 4) rfl (fun K hK => (lz_h K hK).mono (by omega)) lz_w lz_l lz_r rfl hSat3 (fun s s' h1 h2 => hq_F.to h1 h2) (fun s hfin => hq_fin hfin (fun r w' hC' hF' hP' => ?_)) (fun s' q ρ' hq hpc hS hag hF => ?_)
  · obtain ⟨P, hPm, -⟩ := hP'
    simp [lz_G] at hPm
  · obtain ⟨pc', lv2, st', w2⟩ := s'
    simp only [lz_G, List.drop, List.mem_cons, List.not_mem_nil, or_false] at hq
    subst hq
    dsimp only at hpc hS
    subst hpc
    obtain ⟨hL, hst, hC2, hT, hK⟩ := hS
    replace hC2 : af_Conf aw_Sh w2 := hC2
    dsimp only at hL hst hT hK
    have hstn := af_St.nil hst
    subst hstn
    have p0 := hl_ref hL (i := 0) (k := 61) (by simp)
    have hF : af_Fr [(61, 22, 23), (63, 120, 126), (63, 138, 220), (66, 0, 27)] w3 w2 := hF
    refine hq_F.st (s' := (254, lv2, [.ref 61], w2)) hf192_253 rfl rfl rfl (hs_al p0) ?_
    refine hq_F.st (s' := (257, lv2, [.int (gv w2 61 19)], w2)) hf192_254 rfl rfl rfl (hq_gf hC2 sh_61 sk_11_235 (sy_v hC2 (by decide) rfl)) ?_
    refine hq_F.en hf192_257 rfl (pi_ri _) ?_
    rw [show gv w2 61 19 = gv w0 61 19 from (gv_eq (hF 61 19 (by decide))).trans (gv_eq (hq_cell hF3 (by decide)))]
    exact hQ w3 w2 hC2 hF3 hcp hF
theorem MLx.zero {w : pi_W} (h : ∀ j, j < 115 → gv w 64 j = 0) : MLx w ld_0 0 [] [] := by
  have z : (0 : Int32).toInt = 0 := by decide
  refine ⟨(fun e he => by cases he), fun s hs => by rw [h s (by omega), z]; rfl, by rw [h 1 (by decide), z]; rfl, ?_⟩
  intro c k h1 h2
  have hr := ld_mr c h1 k (Nat.lt_of_lt_of_le h2 (ld_n48 c)) h2
  rw [h _ (by omega)]
  rfl
theorem ml_land {d B : Nat} {tp : Nat → Nat} {w : pi_W} {Q : Option Value → pi_W → Prop} (hC : af_Conf aw_Sh w) (hB : (gv w 61 2).toInt = (B : Int)) (ht : ∀ n, n < 940 → (tm_b w n).toInt = (tp n : Int)) (hV : tq_Vm w) (hgo : ∀ (w' : pi_W) (lv' : pi_L) (i : Nat) (σ : ls_S), ls_lines tp B 900 941 0 (tq_tok tp B 900 0, ld_0, 0, []) = .inr (i, σ) → i ≤ 940 → MO tp B 900 w' σ → ls_J σ → gv w' 61 19 = Int32.ofNat i → af_Fr mld_N w w' → pi_get lv' 0 = some (.ref 61) → hq_F (d + 6) hm192 Q (90, lv', [], w')) (hbad : ∀ (w' : pi_W) (k : Int) (p : Nat), ls_lines tp B 900 941 0 (tq_tok tp B 900 0, ld_0, 0, []) = .inl (k, p) → af_Conf aw_Sh w' → af_Fr mld_N w w' → FM w' k p → Q (some (.int (Int32.ofInt (-1) - Int32.ofInt (p : Int)))) w') : hq_F (d + 6) hm192 Q (0, lv_args 0 [.ref 61], [], w) := by
  have hB9 : B ≤ 940 := by
    have := sy_b hC (c := 61) (i := 2) (lo := 0) (hi := 940) (by decide) rfl
    omega
  have g0 : pi_get (lv_args 0 [.ref 61]) 0 = some (.ref 61) := rfl
  have kc0 : (((Int16.ofInt 900).toInt32)).toInt = 900 := by decide
  have kc1 : ((Int32.ofInt 0)).toInt = 0 := by decide
  have kz := sy_z0
  refine hq_F.st (s' := (1, _, _, _)) hf192_0 rfl rfl rfl (hs_al g0) ?_
  refine hq_F.st (s' := (2, _, _, _)) hf192_1 rfl rfl rfl rfl ?_
  refine sy_pf hf192_2 hC sh_61 sk_11_1 (lo := -2147483648) (hi := 2147483647) rfl (af_i32 _) rfl rfl rfl (fun w21 hC21 hw21 => ?_)
  refine hq_F.st (s' := (6, _, _, _)) hf192_5 rfl rfl rfl (hs_al g0) ?_
  refine hq_F.st (s' := (9, _, _, _)) hf192_6 rfl rfl rfl rfl ?_
  refine hq_F.call hf192_9 rfl rfl si_11_232 (by decide) (by decide) sz_166 (sy_argsV hC21 sh_61 rfl rfl rfl (Nat.le_of_ble_eq_true rfl) rfl (Nat.le_of_ble_eq_true rfl) rfl (by decide)) (ml_tkn hC21 (by decide)) (fun _ _ q => by rw [q.2.1.1, hC21.1]) ?_
  rintro r9 wt ⟨rfl, hCt, Ft, t3, t4, t5⟩
  try dsimp only
  refine hq_F.st (s' := (13, _, _, _)) hf192_12 rfl rfl rfl (hs_al g0) ?_
  refine hq_F.st (s' := (14, _, _, _)) hf192_13 rfl rfl rfl rfl ?_
  refine sy_pf hf192_14 hCt sh_61 sk_11_169 (lo := -2147483648) (hi := 2147483647) rfl (af_i32 _) rfl rfl rfl (fun w22 hC22 hw22 => ?_)
  refine hq_F.st (s' := (18, _, _, _)) hf192_17 rfl rfl rfl (hs_al g0) ?_
  refine hq_F.st (s' := (19, _, _, _)) hf192_18 rfl rfl rfl rfl ?_
  refine sy_pf hf192_19 hC22 sh_61 sk_11_235 (lo := -2147483648) (hi := 2147483647) rfl (af_i32 _) rfl rfl rfl (fun w23 hC23 hw23 => ?_)
  refine hq_F.st (s' := (23, _, _, _)) hf192_22 rfl rfl rfl rfl ?_
  refine hq_F.st (s' := (24, _, _, _)) hf192_23 rfl rfl rfl rfl ?_
  have FA : af_Fr [(61, 0, 1), (61, 2, 6), (61, 15, 16), (61, 19, 20)] w w23 := (((wpF hw21).cov (by decide)).tr (((Ft).cov (by decide)).tr (((wpF hw22).cov (by decide)).tr ((wpF hw23).cov (by decide)))))
  have a3 : (gv w23 61 3).toInt = (B : Int) := by rw [wpv hw23, if_neg (by decide), wpv hw22, if_neg (by decide), t3, wpv hw21, if_neg (by decide)]; exact hB
  have a4 : (gv w23 61 4).toInt = ((0 : Nat) : Int) := by rw [wpv hw23, if_neg (by decide), wpv hw22, if_neg (by decide)]; exact t4
  have a5 : (gv w23 61 5).toInt = ((900 : Nat) : Int) := by rw [wpv hw23, if_neg (by decide), wpv hw22, if_neg (by decide)]; exact t5
  have a19 : gv w23 61 19 = Int32.ofNat 0 := by rw [wpv hw23, if_pos ⟨rfl, rfl⟩]; rfl
  refine ml_hz (w0 := w23) ?_ 115 0 (by omega) hC23 (af_Fr.rf _ _) (fun j hj => by omega) (hg_nr g0 (by decide)) (pi_get_set _ _ _)
  intro wz lvz hCz Fz hz gz
  refine hq_F.st (s' := (44, _, _, _)) hf192_43 rfl rfl rfl (hs_al gz) ?_
  have hPz : tm_P tp B wz := ⟨by rw [gv_eq (hq_cell Fz (by decide))]; exact a3, hB9, fun n hn => by unfold tm_b; rw [gv_eq (hq_cell Fz (by decide)), gv_eq (hq_cell FA (by decide))]; exact ht n hn⟩
  have hVz : tq_Vm wz := fun k hk => by rw [gl_eq (hq_cell Fz (by decide)), gl_eq (hq_cell FA (by decide))]; exact hV k hk
  refine hq_F.call hf192_44 rfl rfl si_11_181 (by decide) (by decide) sz_176 (sy_argsV hCz sh_61 rfl rfl rfl (Nat.le_of_ble_eq_true rfl) rfl (Nat.le_of_ble_eq_true rfl) rfl (by decide)) (tm_176 (d := d + 4) (i := 0) hCz hPz (by rw [gv_eq (hq_cell Fz (by decide))]; exact a5) (by rw [gv_eq (hq_cell Fz (by decide))]; exact a4) (by omega)) (fun _ _ q => by rw [q.2.1.1, hCz.1]) ?_
  rintro r44 w6 ⟨rfl, hC6, F6, A6⟩
  try dsimp only
  have hM6 : MT tp B 900 w6 (tq_tok tp B 900 0) := ⟨hC6, hPz.fr F6 (by decide) (by decide), by rw [gv_eq (F6 61 5 (by decide)), gv_eq (hq_cell Fz (by decide))]; exact a5, fun k hk => by rw [gl_eq (hq_cell F6 (by decide))]; exact hVz k hk, tm_ok (tq_sk_le (Nat.zero_le _)).2 A6, tq_tok_W (Nat.zero_le _)⟩
  refine ml_lnl (d := d) (M := 900) (w0 := w) hgo hbad hB9 941 0 (by omega) (by omega) (fun q => tq_tok_e q) rfl ⟨hM6, ((MLx.zero hz).fr F6 (by decide) (by decide))⟩ ls_J0 ?_ ((FA.cov (by decide)).tr ((Fz.cov (by decide)).tr (F6.cov (by decide)))) gz
  rw [gv_eq (F6 61 19 (by decide)), gv_eq (hq_cell Fz (by decide))]
  exact a19
/-- what land answers -/
def ld_val (F : (Int × Nat) ⊕ (Nat × ls_S)) : Int32 := match F with
  | .inl (_, p) => Int32.ofInt (-1) - Int32.ofInt (p : Int)
  | .inr (i, _) => Int32.ofNat i
def ld_LR (tp : Nat → Nat) (B : Nat) : (Int × Nat) ⊕ (Nat × ls_S) := ls_lines tp B 900 941 0 (tq_tok tp B 900 0, ld_0, 0, [])
/-- the model answers so, and the LINES are fewer than 941 -/
theorem ml_ans {d B : Nat} {tp : Nat → Nat} {w : pi_W} (hC : af_Conf aw_Sh w) (hB : (gv w 61 2).toInt = (B : Int)) (ht : ∀ n, n < 940 → (tm_b w n).toInt = (tp n : Int)) (hV : tq_Vm w) : hq_F (d + 6) hm192 (fun r _ => r = some (.int (ld_val (ld_LR tp B))) ∧ ∀ σ, ld_LR tp B ≠ .inr (941, σ)) (0, lv_args 0 [.ref 61], [], w) := by
  refine ml_land hC hB ht hV (fun w' lv' i σ e hi hO hJ hn hF g0 => ?_) (fun w' k p e hC' hF hq => ?_)
  · refine ml_end (d := d + 5) (by omega) hO.1.1 g0 (fun w1 w2 _ _ _ _ => ?_)
    refine ⟨?_, fun σ' q => ?_⟩
    · rw [show ld_LR tp B = .inr (i, σ) from e, hn]
      rfl
    · have q2 := e.symm.trans q
      cases q2
      omega
  · refine ⟨?_, fun σ' q => ?_⟩
    · rw [show ld_LR tp B = .inl (k, p) from e]
      rfl
    · have q2 := e.symm.trans q
      cases q2
