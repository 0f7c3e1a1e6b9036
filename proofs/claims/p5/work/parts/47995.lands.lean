/-! ===== LANDS alike; by program ===== -/
theorem sk_10_37 : pi_look pi_fT 10 37 = some (2, 0, 226) := rfl
theorem si_10_152 : pi_look pi_iT 10 152 = some (0, 159, 2, 676) := rfl
def sm151 : pi_M := (10, 2, (some .int), false, mc_151)
def sm284 : pi_M := (11, 2, (some .int), false, mc_284)
set_option maxRecDepth 100000 in
theorem sz_151 : pi_mt[151]? = some (mn_151, prog_1_method_43_code, (10, 2, (some .int), false, mc_151)) := rfl
set_option maxRecDepth 100000 in
theorem sz_284 : pi_mt[284]? = some (mn_284, prog_13_method_124_code, (11, 2, (some .int), false, mc_284)) := rfl
theorem hj151_0 : pi_fetch mc_151 0 = some (.iload_n 1, 1) := rfl
theorem hj151_1 : pi_fetch mc_151 1 = some (.ifCond .lt 20, 3) := rfl
theorem hj151_4 : pi_fetch mc_151 4 = some (.iload_n 1, 1) := rfl
theorem hj151_5 : pi_fetch mc_151 5 = some (.iconst 4, 1) := rfl
theorem hj151_6 : pi_fetch mc_151 6 = some (.if_icmp .gt 15, 3) := rfl
theorem hj151_9 : pi_fetch mc_151 9 = some (.aload_n 0, 1) := rfl
theorem hj151_10 : pi_fetch mc_151 10 = some (.getfield 19, 3) := rfl
theorem hj151_13 : pi_fetch mc_151 13 = some (.getfield 37, 3) := rfl
theorem hj151_16 : pi_fetch mc_151 16 = some (.iload_n 1, 1) := rfl
theorem hj151_17 : pi_fetch mc_151 17 = some (.invokestatic 152, 3) := rfl
theorem hj151_20 : pi_fetch mc_151 20 = some (.ireturn, 1) := rfl
theorem hj151_21 : pi_fetch mc_151 21 = some (.iload_n 1, 1) := rfl
theorem hj151_22 : pi_fetch mc_151 22 = some (.iconst 5, 1) := rfl
theorem hj151_23 : pi_fetch mc_151 23 = some (.if_icmp .ne 13, 3) := rfl
theorem hj151_26 : pi_fetch mc_151 26 = some (.aload_n 0, 1) := rfl
theorem hj151_27 : pi_fetch mc_151 27 = some (.getfield 12, 3) := rfl
theorem hj151_30 : pi_fetch mc_151 30 = some (.getfield 118, 3) := rfl
theorem hj151_33 : pi_fetch mc_151 33 = some (.goto 4, 3) := rfl
theorem hj151_36 : pi_fetch mc_151 36 = some (.iconst (-1), 1) := rfl
theorem hj151_37 : pi_fetch mc_151 37 = some (.ireturn, 1) := rfl
theorem hj284_0 : pi_fetch mc_284 0 = some (.aload_n 0, 1) := rfl
theorem hj284_1 : pi_fetch mc_284 1 = some (.iconst 0, 1) := rfl
theorem hj284_2 : pi_fetch mc_284 2 = some (.putfield 1, 3) := rfl
theorem hj284_5 : pi_fetch mc_284 5 = some (.iload_n 1, 1) := rfl
theorem hj284_6 : pi_fetch mc_284 6 = some (.iconst 5, 1) := rfl
theorem hj284_7 : pi_fetch mc_284 7 = some (.if_icmp .ne 10, 3) := rfl
theorem hj284_10 : pi_fetch mc_284 10 = some (.aload_n 0, 1) := rfl
theorem hj284_11 : pi_fetch mc_284 11 = some (.getfield 7, 3) := rfl
theorem hj284_14 : pi_fetch mc_284 14 = some (.goto 22, 3) := rfl
theorem hj284_17 : pi_fetch mc_284 17 = some (.iload_n 1, 1) := rfl
theorem hj284_18 : pi_fetch mc_284 18 = some (.iconst 0, 1) := rfl
theorem hj284_19 : pi_fetch mc_284 19 = some (.iconst 4, 1) := rfl
theorem hj284_20 : pi_fetch mc_284 20 = some (.invokestatic 184, 3) := rfl
theorem hj284_23 : pi_fetch mc_284 23 = some (.ifCond .eq 12, 3) := rfl
theorem hj284_26 : pi_fetch mc_284 26 = some (.aload_n 0, 1) := rfl
theorem hj284_27 : pi_fetch mc_284 27 = some (.getfield 33, 3) := rfl
theorem hj284_30 : pi_fetch mc_284 30 = some (.iload_n 1, 1) := rfl
theorem hj284_31 : pi_fetch mc_284 31 = some (.iaload, 1) := rfl
theorem hj284_32 : pi_fetch mc_284 32 = some (.goto 4, 3) := rfl
theorem hj284_35 : pi_fetch mc_284 35 = some (.iconst (-1), 1) := rfl
theorem hj284_36 : pi_fetch mc_284 36 = some (.ireturn, 1) := rfl
/-- the rows (fa, na) of the class now are (fb, nb) before -/
def CP (w w' : pi_W) (fa na fb nb : Nat) : Prop := (∀ j, j < 170 → gv w' fa j = gv w fb j) ∧ ∀ j, j < 27 → gl w' na j = gl w nb j
def MP (w w' : pi_W) (sa so ma mo sb sbo mb mbo : Nat) : Prop := (∀ j, j < 115 → gv w' sa (so + j) = gv w sb (sbo + j)) ∧ ∀ j, j < 27 → gl w' ma (mo + j) = gl w mb (mbo + j)
theorem CP.tr {w w1 w2 : pi_W} {a b c d e f : Nat} (h1 : CP w w1 c d e f) (h2 : CP w1 w2 a b c d) : CP w w2 a b e f := ⟨fun j hj => (h2.1 j hj).trans (h1.1 j hj), fun j hj => (h2.2 j hj).trans (h1.2 j hj)⟩
theorem MP.tr {w w1 w2 : pi_W} {a1 a2 a3 a4 b1 b2 b3 b4 c1 c2 c3 c4 : Nat} (h1 : MP w w1 b1 b2 b3 b4 c1 c2 c3 c4) (h2 : MP w1 w2 a1 a2 a3 a4 b1 b2 b3 b4) : MP w w2 a1 a2 a3 a4 c1 c2 c3 c4 := ⟨fun j hj => (h2.1 j hj).trans (h1.1 j hj), fun j hj => (h2.2 j hj).trans (h1.2 j hj)⟩
theorem CL.cp {w w' : pi_W} {fa na fb nb : Nat} {A : ld_A} {nr : Nat} {NT : List nt_E} (h : CL w fb nb A nr NT) (hc : CP w w' fa na fb nb) : CL w' fa na A nr NT := by
  obtain ⟨⟨a1, a2, a3⟩, b, c, d⟩ := h
  refine ⟨⟨by rw [hc.1 5 (by decide)]; exact a1, a2, fun i e he => ?_⟩, fun s hs => by rw [hc.1 s (by omega)]; exact b s hs, by rw [hc.1 1 (by decide)]; exact c, fun c' k h1 h2 h3 h4 => ?_⟩
  · have hi : i < NT.length := (List.getElem?_eq_some_iff.mp he).1
    have q := a3 i e he
    rw [hc.2 i (by omega), hc.1 (116 + i) (by omega), hc.1 (143 + i) (by omega)]
    exact q
  · have hr := ld_cr c' h1 k (Nat.lt_of_lt_of_le h2 (ld_n48 c')) h2
    rw [hc.1 _ (by omega)]
    exact d c' k h1 h2 h3 h4
/-- a LAND in the model's rows -/
def MS (w : pi_W) (sa so ma mo : Nat) (A : ld_A) (nr : Nat) (NT : List nt_E) : Prop := (∀ e ∈ NT, gl w ma (mo + (nt_b e.1 + e.2.1)) = Int64.ofNat (tq_c256 e.2.2)) ∧ (∀ s, s = 0 ∨ s = 2 ∨ s = 3 ∨ s = 4 → (gv w sa (so + s)).toInt = (nt_c s NT : Int)) ∧ (gv w sa (so + 1)).toInt = (nr : Int) ∧ MR w sa so A
theorem nt_b_lt {NT : List nt_E} (ho : nt_ok NT) (hc : nt_cs NT) {e : nt_E} (he : e ∈ NT) : nt_b e.1 + e.2.1 < 27 := by
  obtain ⟨_, h1, h2⟩ := ho.1 e he
  obtain ⟨c0, c2, c3, c4⟩ := hc
  have b0 : nt_b 0 = 0 := rfl
  have b2 : nt_b 2 = 10 := rfl
  have b3 : nt_b 3 = 15 := rfl
  have b4 : nt_b 4 = 21 := rfl
  rcases h1 with q | q | q | q <;> rw [q] at h2 ⊢ <;> omega
theorem MS.cp {w w' : pi_W} {sa so ma mo sb sbo mb mbo : Nat} {A : ld_A} {nr : Nat} {NT : List nt_E} (h : MS w sb sbo mb mbo A nr NT) (ho : nt_ok NT) (hcs : nt_cs NT) (hc : MP w w' sa so ma mo sb sbo mb mbo) : MS w' sa so ma mo A nr NT := by
  obtain ⟨a, b, c, d⟩ := h
  refine ⟨fun e he => by rw [hc.2 _ (nt_b_lt ho hcs he)]; exact a e he, fun s hs => by rw [hc.1 s (by omega)]; exact b s hs, by rw [hc.1 1 (by decide)]; exact c, fun c' k h1 h2 => ?_⟩
  have hr := ld_mr c' h1 k (Nat.lt_of_lt_of_le h2 (ld_n48 c')) h2
  rw [hc.1 _ (by omega)]
  exact d c' k h1 h2
/-- the same LAND on both sides -/
def LA (w : pi_W) (fa na sa so ma mo : Nat) : Prop := ∃ σ : ls_S, ls_J σ ∧ CL w fa na σ.2.1 σ.2.2.1 σ.2.2.2 ∧ MS w sa so ma mo σ.2.1 σ.2.2.1 σ.2.2.2
theorem LA.cp {w w' : pi_W} {fa na sa so ma mo fb nb sb sbo mb mbo : Nat} (h : LA w fb nb sb sbo mb mbo) (hc : CP w w' fa na fb nb) (hm : MP w w' sa so ma mo sb sbo mb mbo) : LA w' fa na sa so ma mo := by
  obtain ⟨σ, hJ, h1, h2⟩ := h
  exact ⟨σ, hJ, h1.cp hc, h2.cp hJ.1.1 hJ.1.2.1 hm⟩
theorem LA.zero {w : pi_W} {fa na sa so ma mo : Nat} (h : ∀ j, j < 170 → gv w fa j = 0) (h2 : ∀ j, j < 115 → gv w sa (so + j) = 0) : LA w fa na sa so ma mo := by
  have z : (0 : Int32).toInt = 0 := by decide
  refine ⟨((0, 0, 0, [], 0), ld_0, 0, []), ls_J0, ⟨⟨by rw [h 5 (by decide), z]; rfl, Nat.zero_le _, fun i e he => by simp at he⟩, fun s hs => by rw [h s (by omega), z]; rfl, by rw [h 1 (by decide), z]; rfl, ?_⟩, ⟨(fun e he => by cases he), fun s hs => by rw [h2 s (by omega), z]; rfl, by rw [h2 1 (by decide), z]; rfl, ?_⟩⟩
  · intro c k h1 h2 h3 h4
    have hr := ld_cr c h1 k (Nat.lt_of_lt_of_le h2 (ld_n48 c)) h2
    rw [h _ (by omega)]
    by_cases e : c = 4 ∨ c = 7
    · rcases e with e | e
      · exact absurd (h3 e) (Nat.not_lt_zero _)
      · exact absurd (h4 e) (Nat.not_lt_zero _)
    · unfold ld_v
      rw [if_neg e]
      rfl
  · intro c k h1 h3
    have hr := ld_mr c h1 k (Nat.lt_of_lt_of_le h3 (ld_n48 c)) h3
    rw [h2 _ (by omega)]
    rfl
theorem LA.cnt {w : pi_W} {fa na sa so ma mo : Nat} (h : LA w fa na sa so ma mo) {k : Nat} (hk : k < 5) : gv w fa k = gv w sa (so + k) := by
  obtain ⟨σ, hJ, h1, h2⟩ := h
  refine Int32.toInt_inj.mp ?_
  by_cases e : k = 1
  · subst e
    rw [h1.2.2.1, h2.2.2.1]
  · rw [h1.2.1 k (by omega), h2.2.1 k (by omega)]
theorem cl_landS {d B : Nat} {tp : Nat → Nat} {w : pi_W} (hC : af_Conf aw_Sh w) (hP : tc_P tp B w) (hV : tq_V w) : hq_F (d + 7) sm113 (fun _ w' => (∀ i σ, ld_LR tp B = .inr (i, σ) → i ≤ 940 → CL w' 5 6 σ.2.1 σ.2.2.1 σ.2.2.2) ∧ ∀ k p, ld_LR tp B = .inl (k, p) → CP w w' 5 6 5 6) (0, lv_args 0 [.ref 0], [], w) := by
  have g0 : pi_get (lv_args 0 [.ref 0]) 0 = some (.ref 0) := rfl
  have kc0 : ((-1 : Int32)).toInt = (-1) := by decide
  have kc1 : ((0 : Int32)).toInt = 0 := by decide
  have kc2 : ((1 : Int32)).toInt = 1 := by decide
  have kc3 : ((Int32.ofInt (-1))).toInt = (-1) := by decide
  have kc4 : ((Int32.ofInt 0)).toInt = 0 := by decide
  have kz := sy_z0
  refine hq_F.st (s' := (1, _, _, _)) hj113_0 rfl rfl rfl (hs_al g0) ?_
  refine hq_F.st (s' := (4, _, _, _)) hj113_1 rfl rfl rfl (hq_gf hC sh_0 sk_10_31 (hq_ref hC sh_0 (b := 10) rfl)) ?_
  refine hq_F.call hj113_4 rfl rfl si_10_125 (by decide) (by decide) sz_21 (sy_argsV hC sh_10 rfl rfl rfl (Nat.le_of_ble_eq_true rfl) rfl (Nat.le_of_ble_eq_true rfl) rfl (by decide)) (cl_lines (d := d) hC hP hV) (fun _ _ q => by rw [q.1.1, hC.1]) ?_
  rintro r4 w1 ⟨hC1, F1, q⟩
  try dsimp only
  rcases q with ⟨i, σ, e, rfl, hi, O1⟩ | ⟨rfl, k, p, e, q1⟩ | ⟨σ, e, rfl⟩
  · have ti : (Int32.ofNat i).toInt = (i : Int) := hn_t (by omega)
    refine hq_F.st (s' := (8, _, _, _)) hj113_7 rfl rfl rfl rfl ?_
    refine hq_F.st (s' := (9, _, _, _)) hj113_8 rfl rfl rfl (hs_al (hg_nr g0 (by decide))) ?_
    refine hq_F.st (s' := (12, _, _, _)) hj113_9 rfl rfl rfl (hq_gf hC1 sh_0 sk_10_12 (hq_ref hC1 sh_0 (b := 1) rfl)) ?_
    refine hq_F.st (s' := (13, _, _, _)) hj113_12 rfl rfl rfl rfl ?_
    refine sy_pf hj113_13 hC1 sh_1 sk_10_118 (lo := -2147483648) (hi := 2147483647) rfl (af_i32 _) rfl rfl rfl (fun w21 hC21 hw21 => ?_)
    refine hq_F.st (s' := (17, _, _, _)) hj113_16 rfl rfl rfl (hs_iln (pi_get_set _ _ _)) ?_
    refine hq_F.st (s' := (18, _, _, _)) hj113_17 rfl rfl rfl rfl ?_
    refine hq_F.st (s' := (31, _, _, _)) hj113_18 rfl rfl rfl (hs_ic (ci_ne (by omega)) rfl) ?_
    refine hq_F.st (s' := (32, _, _, _)) hj113_31 rfl rfl rfl (hs_al (hg_nr g0 (by decide))) ?_
    refine hq_F.st (s' := (35, _, _, _)) hj113_32 rfl rfl rfl (hq_gf hC21 sh_0 sk_10_19 (hq_ref hC21 sh_0 (b := 4) rfl)) ?_
    refine hq_F.st (s' := (36, _, _, _)) hj113_35 rfl rfl rfl (hs_al (hg_nr g0 (by decide))) ?_
    refine hq_F.st (s' := (39, _, _, _)) hj113_36 rfl rfl rfl (hq_gf hC21 sh_0 sk_10_23 (hq_ref hC21 sh_0 (b := 7) rfl)) ?_
    refine hq_F.call hj113_39 rfl rfl si_10_132 (by decide) (by decide) sz_11 (sy_argsV hC21 sh_4 rfl rfl rfl (Nat.le_of_ble_eq_true rfl) rfl (Nat.le_of_ble_eq_true rfl) rfl (by decide)) (cc_4_7 (d := d + 4) hC21) (fun _ _ q => by rw [q.2.1.1, hC21.1]) ?_
    rintro r39 v1 ⟨rfl, c1, f1, d1, e1⟩
    try dsimp only
    refine hq_F.st (s' := (43, _, _, _)) hj113_42 rfl rfl rfl (hs_al (hg_nr g0 (by decide))) ?_
    refine hq_F.st (s' := (46, _, _, _)) hj113_43 rfl rfl rfl (hq_gf c1 sh_0 sk_10_44 (hq_ref c1 sh_0 (b := 11) rfl)) ?_
    refine hq_F.call hj113_46 rfl rfl si_10_136 (by decide) (by decide) sz_37 (sy_argsV c1 sh_11 rfl rfl rfl (Nat.le_of_ble_eq_true rfl) rfl (Nat.le_of_ble_eq_true rfl) rfl (by decide)) (cl_void (d := d + 6) (sh := [.inr (.inl 11)]) ah_112 (by omega) pz_37 c1 rfl (⟨rfl, trivial⟩) (by decide)) (fun _ _ q => by rw [q.2.1.1, c1.1]) ?_
    rintro r46 v2 ⟨rfl, c2, f2⟩
    try dsimp only
    refine hq_F.st (s' := (50, _, _, _)) hj113_49 rfl rfl rfl (hs_al (hg_nr g0 (by decide))) ?_
    refine hq_F.st (s' := (53, _, _, _)) hj113_50 rfl rfl rfl (hq_gf c2 sh_0 sk_10_61 (hq_ref c2 sh_0 (b := 17) rfl)) ?_
    refine hq_F.call hj113_53 rfl rfl si_10_139 (by decide) (by decide) sz_80 (sy_argsV c2 sh_17 rfl rfl rfl (Nat.le_of_ble_eq_true rfl) rfl (Nat.le_of_ble_eq_true rfl) rfl (by decide)) (cl_void (d := d + 6) (sh := [.inr (.inl 17)]) ah_113 (by omega) pz_80 c2 rfl (⟨rfl, trivial⟩) (by decide)) (fun _ _ q => by rw [q.2.1.1, c2.1]) ?_
    rintro r53 v3 ⟨rfl, c3, f3⟩
    try dsimp only
    refine hq_F.st (s' := (57, _, _, _)) hj113_56 rfl rfl rfl (hs_al (hg_nr g0 (by decide))) ?_
    refine hq_F.st (s' := (60, _, _, _)) hj113_57 rfl rfl rfl (hq_gf c3 sh_0 sk_10_54 (hq_ref c3 sh_0 (b := 15) rfl)) ?_
    refine hq_F.call hj113_60 rfl rfl si_10_142 (by decide) (by decide) sz_71 (sy_argsV c3 sh_15 rfl rfl rfl (Nat.le_of_ble_eq_true rfl) rfl (Nat.le_of_ble_eq_true rfl) rfl (by decide)) (cl_void (d := d + 6) (sh := [.inr (.inl 15)]) ah_114 (by omega) pz_71 c3 rfl (⟨rfl, trivial⟩) (by decide)) (fun _ _ q => by rw [q.2.1.1, c3.1]) ?_
    rintro r60 v4 ⟨rfl, c4, f4⟩
    try dsimp only
    refine hq_F.st (s' := (64, _, _, _)) hj113_63 rfl rfl rfl (hs_iln (pi_get_set _ _ _)) ?_
    refine hq_F.en hj113_64 rfl (pi_ri _) ?_
    refine ⟨fun i' σ' e' _ => ?_, fun k p e' => by have q := e.symm.trans e'; cases q⟩
    have q := e.symm.trans e'
    cases q
    refine O1.2.cp ⟨fun j hj => ?_, fun j hj => ?_⟩
    · rw [gv_eq (hq_cell f4 (by decide)), gv_eq (hq_cell f3 (by decide)), gv_eq (hq_cell f2 (by decide)), d1 j hj, wpv hw21, if_neg (by omega)]
    · rw [gl_eq (hq_cell f4 (by decide)), gl_eq (hq_cell f3 (by decide)), gl_eq (hq_cell f2 (by decide)), e1 j hj, wpvl hw21, if_neg (by omega)]
  · skip
    refine hq_F.st (s' := (8, _, _, _)) hj113_7 rfl rfl rfl rfl ?_
    refine hq_F.st (s' := (9, _, _, _)) hj113_8 rfl rfl rfl (hs_al (hg_nr g0 (by decide))) ?_
    refine hq_F.st (s' := (12, _, _, _)) hj113_9 rfl rfl rfl (hq_gf hC1 sh_0 sk_10_12 (hq_ref hC1 sh_0 (b := 1) rfl)) ?_
    refine hq_F.st (s' := (13, _, _, _)) hj113_12 rfl rfl rfl rfl ?_
    refine sy_pf hj113_13 hC1 sh_1 sk_10_118 (lo := -2147483648) (hi := 2147483647) rfl (af_i32 _) rfl rfl rfl (fun w22 hC22 hw22 => ?_)
    refine hq_F.st (s' := (17, _, _, _)) hj113_16 rfl rfl rfl (hs_iln (pi_get_set _ _ _)) ?_
    refine hq_F.st (s' := (18, _, _, _)) hj113_17 rfl rfl rfl rfl ?_
    refine hq_F.st (s' := (21, _, _, _)) hj113_18 rfl rfl rfl (hs_icn (t := 31) (ci_nen (by omega)) rfl) ?_
    refine hq_F.st (s' := (22, _, _, _)) hj113_21 rfl rfl rfl rfl ?_
    refine hq_F.st (s' := (23, _, _, _)) hj113_22 rfl rfl rfl (hs_al (hg_nr g0 (by decide))) ?_
    refine hq_F.st (s' := (26, _, _, _)) hj113_23 rfl rfl rfl (hq_gf hC22 sh_0 sk_10_12 (hq_ref hC22 sh_0 (b := 1) rfl)) ?_
    refine hq_F.st (s' := (29, _, _, _)) hj113_26 rfl rfl rfl (hq_gf hC22 sh_1 sk_10_129 (sy_v hC22 (by decide) rfl)) ?_
    have q26 : (gv w22 1 11).toInt = (gv w1 1 11).toInt := by rw [wpv hw22, if_neg (by decide)]
    refine hq_F.st (s' := (30, _, _, _)) hj113_29 rfl rfl rfl rfl ?_
    refine hq_F.en hj113_30 rfl (pi_ri _) ?_
    refine ⟨fun i' σ' e' _ => (by have q := e.symm.trans e'; cases q), fun k' p' _ => ⟨fun j hj => ?_, fun j hj => ?_⟩⟩
    · rw [wpv hw22, if_neg (by omega)]
      exact gv_eq (hq_cell F1 (by decide))
    · rw [wpvl hw22, if_neg (by omega)]
      exact gl_eq (hq_cell F1 (by decide))
  · skip
    refine hq_F.st (s' := (8, _, _, _)) hj113_7 rfl rfl rfl rfl ?_
    refine hq_F.st (s' := (9, _, _, _)) hj113_8 rfl rfl rfl (hs_al (hg_nr g0 (by decide))) ?_
    refine hq_F.st (s' := (12, _, _, _)) hj113_9 rfl rfl rfl (hq_gf hC1 sh_0 sk_10_12 (hq_ref hC1 sh_0 (b := 1) rfl)) ?_
    refine hq_F.st (s' := (13, _, _, _)) hj113_12 rfl rfl rfl rfl ?_
    refine sy_pf hj113_13 hC1 sh_1 sk_10_118 (lo := -2147483648) (hi := 2147483647) rfl (af_i32 _) rfl rfl rfl (fun w23 hC23 hw23 => ?_)
    refine hq_F.st (s' := (17, _, _, _)) hj113_16 rfl rfl rfl (hs_iln (pi_get_set _ _ _)) ?_
    refine hq_F.st (s' := (18, _, _, _)) hj113_17 rfl rfl rfl rfl ?_
    refine hq_F.st (s' := (21, _, _, _)) hj113_18 rfl rfl rfl (hs_icn (t := 31) (ci_nen (by omega)) rfl) ?_
    refine hq_F.st (s' := (22, _, _, _)) hj113_21 rfl rfl rfl rfl ?_
    refine hq_F.st (s' := (23, _, _, _)) hj113_22 rfl rfl rfl (hs_al (hg_nr g0 (by decide))) ?_
    refine hq_F.st (s' := (26, _, _, _)) hj113_23 rfl rfl rfl (hq_gf hC23 sh_0 sk_10_12 (hq_ref hC23 sh_0 (b := 1) rfl)) ?_
    refine hq_F.st (s' := (29, _, _, _)) hj113_26 rfl rfl rfl (hq_gf hC23 sh_1 sk_10_129 (sy_v hC23 (by decide) rfl)) ?_
    have q26 : (gv w23 1 11).toInt = (gv w1 1 11).toInt := by rw [wpv hw23, if_neg (by decide)]
    refine hq_F.st (s' := (30, _, _, _)) hj113_29 rfl rfl rfl rfl ?_
    refine hq_F.en hj113_30 rfl (pi_ri _) ?_
    exact ⟨fun i' σ' e' hi => (by have q := e.symm.trans e'; cases q; omega), fun k p e' => (by have q := e.symm.trans e'; cases q)⟩
theorem ml_landS {d B : Nat} {tp : Nat → Nat} {w : pi_W} (hC : af_Conf aw_Sh w) (hB : (gv w 61 2).toInt = (B : Int)) (ht : ∀ n, n < 940 → (tm_b w n).toInt = (tp n : Int)) (hV : tq_Vm w) : hq_F (d + 6) hm192 (fun _ w' => (∀ i σ, ld_LR tp B = .inr (i, σ) → i ≤ 940 ∧ ls_J σ ∧ MS w' 63 0 66 0 σ.2.1 σ.2.2.1 σ.2.2.2) ∧ ∀ k p, ld_LR tp B = .inl (k, p) → MP w w' 63 0 66 0 63 0 66 0) (0, lv_args 0 [.ref 61], [], w) := by
  refine ml_land hC hB ht hV (fun w5 lv' i σ e hi hO hJ hn hF g0 => ?_) (fun w' k p e hC' hF hq => ?_)
  · refine ml_end2 (d := d + 5) (by omega) hO.1.1 g0 (fun w1 w2 w' hC' F1 c1 F2 c2 F3 => ?_)
    refine ⟨fun i' σ' e' => ?_, fun k p e' => by have q := e.symm.trans e'; cases q⟩
    have q := e.symm.trans e'
    cases q
    refine ⟨hi, hJ, ?_⟩
    have h5 : MS w5 64 0 66 27 σ.2.1 σ.2.2.1 σ.2.2.2 := by
      obtain ⟨a, b, c, dd⟩ := hO.2
      exact ⟨fun e he => by rw [← Nat.add_assoc]; exact a e he, fun s hs => by rw [Nat.zero_add]; exact b s hs, by rw [Nat.zero_add]; exact c, dd⟩
    refine h5.cp hJ.1.1 hJ.1.2.1 ⟨fun j hj => ?_, fun j hj => ?_⟩
    · rw [Nat.zero_add, gv_eq (F3 63 j ?_), gv_eq (hq_cell F2 (by decide)), c1 j (by omega), if_pos hj]
      rw [← Bool.not_eq_true]
      intro q
      unfold af_cov at q
      simp only [List.any_cons, List.any_nil, Bool.or_false, Bool.or_eq_true, Bool.and_eq_true, beq_iff_eq, Nat.ble_eq, Nat.blt_eq] at q
      omega
    · rw [Nat.zero_add, gl_eq (hq_cell F3 (by decide)), c2 j hj]
      exact gl_eq (hq_cell F1 (by decide))
  · refine ⟨fun i' σ' e' => (by have q := e.symm.trans e'; cases q), fun k' p' _ => ⟨fun j hj => ?_, fun j hj => ?_⟩⟩
    · exact gv_eq (hq_cell hF (by decide))
    · refine gl_eq (hF 66 _ ?_)
      rw [← Bool.not_eq_true]
      intro q
      unfold af_cov mld_N at q
      simp only [List.any_cons, List.any_nil, Bool.or_false, Bool.or_eq_true, Bool.and_eq_true, beq_iff_eq, Nat.ble_eq, Nat.blt_eq] at q
      omega
theorem cx_image {d : Nat} {w : pi_W} {x : Int32} (hC : af_Conf aw_Sh w) : hq_F (d + 4) sm149 (fun _ w' => (x.toInt = 0 → CP w w' 40 41 5 6 ∧ CP w w' 51 52 51 52) ∧ (x.toInt = 1 → CP w w' 51 52 5 6 ∧ CP w w' 40 41 40 41) ∧ (¬ x.toInt = 0 → ¬ x.toInt = 1 → CP w w' 40 41 40 41 ∧ CP w w' 51 52 51 52)) (0, lv_args 0 [.ref 0, .int x], [], w) := by
  by_cases h0 : x.toInt = 0
  · refine (ci_im0 hC h0).imp ?_
    rintro r w' ⟨F, q1, q2⟩
    exact ⟨fun _ => ⟨⟨q1, q2⟩, fun j hj => gv_eq (hq_cell F (by decide)), fun j hj => gl_eq (hq_cell F (by decide))⟩, fun h => by omega, fun h => absurd h0 h⟩
  · by_cases h1 : x.toInt = 1
    · refine (ci_im1 hC h1).imp ?_
      rintro r w' ⟨F, q1, q2⟩
      exact ⟨fun h => by omega, fun _ => ⟨⟨q1, q2⟩, fun j hj => gv_eq (hq_cell F (by decide)), fun j hj => gl_eq (hq_cell F (by decide))⟩, fun _ h => absurd h1 h⟩
    · refine (ci_imN h0 h1).imp ?_
      rintro r w' rfl
      exact ⟨fun h => absurd h h0, fun h => absurd h h1, fun _ _ => ⟨⟨fun _ _ => rfl, fun _ _ => rfl⟩, fun _ _ => rfl, fun _ _ => rfl⟩⟩
theorem cx_restore {d : Nat} {w : pi_W} {x : Int32} (hC : af_Conf aw_Sh w) : hq_F (d + 4) sm150 (fun _ w' => (x.toInt = 0 → ¬ (gv w 38 3).toInt = 0 → CP w w' 5 6 40 41) ∧ (x.toInt = 1 → ¬ (gv w 49 3).toInt = 0 → CP w w' 5 6 51 52) ∧ (¬ (x.toInt = 0 ∧ ¬ (gv w 38 3).toInt = 0) → ¬ (x.toInt = 1 ∧ ¬ (gv w 49 3).toInt = 0) → CP w w' 5 6 5 6)) (0, lv_args 0 [.ref 0, .int x], [], w) := by
  by_cases h0 : x.toInt = 0
  · refine (ci_re0 hC h0).imp ?_
    rintro r w' ⟨q1, q2⟩
    refine ⟨fun _ h => q1 h, fun h => by omega, fun h _ => q2 ?_⟩
    by_cases e : (gv w 38 3).toInt = 0
    · exact e
    · exact absurd ⟨h0, e⟩ h
  · by_cases h1 : x.toInt = 1
    · refine (ci_re1 hC h1).imp ?_
      rintro r w' ⟨q1, q2⟩
      refine ⟨fun h => by omega, fun _ h => q1 h, fun _ h => q2 ?_⟩
      by_cases e : (gv w 49 3).toInt = 0
      · exact e
      · exact absurd ⟨h1, e⟩ h
    · refine (ci_reN h0 h1).imp ?_
      rintro r w' rfl
      exact ⟨fun h => absurd h h0, fun h => absurd h h1, fun _ _ => ⟨fun _ _ => rfl, fun _ _ => rfl⟩⟩
theorem mx_image {d : Nat} {w : pi_W} {x : Int32} (hC : af_Conf aw_Sh w) : hq_F (d + 1) hm282 (fun _ w' => (x.toInt = 0 → MP w w' 76 0 77 0 63 0 66 0 ∧ MP w w' 76 411 77 27 76 411 77 27) ∧ (x.toInt = 1 → MP w w' 76 411 77 27 63 0 66 0 ∧ MP w w' 76 0 77 0 76 0 77 0) ∧ (¬ x.toInt = 0 → ¬ x.toInt = 1 → MP w w' 76 0 77 0 76 0 77 0 ∧ MP w w' 76 411 77 27 76 411 77 27)) (0, lv_args 0 [.ref 61, .int x], [], w) := by
  by_cases h0 : x.toInt = 0
  · obtain rfl : x = Int32.ofNat 0 := hn_e h0 (by decide)
    refine (mi_im (kk := 0) hC (by decide)).imp ?_
    rintro r w' ⟨q1, q2, q3⟩
    refine ⟨fun _ => ⟨⟨fun j hj => ?_, fun j hj => ?_⟩, fun j hj => gv_eq (q3 76 _ (Or.inl ⟨rfl, by omega⟩)), fun j hj => gl_eq (q3 77 _ (Or.inr ⟨rfl, by omega⟩))⟩, fun h => by omega, fun h => absurd h0 h⟩
    · have := q1 j (by omega)
      rw [Nat.mul_zero] at this
      rw [this, Nat.zero_add]
    · have := q2 j hj
      rw [Nat.mul_zero] at this
      rw [this, Nat.zero_add]
  · by_cases h1 : x.toInt = 1
    · obtain rfl : x = Int32.ofNat 1 := hn_e h1 (by decide)
      refine (mi_im (kk := 1) hC (by decide)).imp ?_
      rintro r w' ⟨q1, q2, q3⟩
      refine ⟨fun h => by omega, fun _ => ⟨⟨fun j hj => ?_, fun j hj => ?_⟩, fun j hj => gv_eq (q3 76 _ (Or.inl ⟨rfl, by omega⟩)), fun j hj => gl_eq (q3 77 _ (Or.inr ⟨rfl, by omega⟩))⟩, fun _ h => absurd h1 h⟩
      · have := q1 j (by omega)
        rw [Nat.mul_one] at this
        rw [this, Nat.zero_add]
      · have := q2 j hj
        rw [Nat.mul_one] at this
        rw [this, Nat.zero_add]
    · refine (mi_imN hC h0 h1).imp ?_
      intro r w' F
      exact ⟨fun h => absurd h h0, fun h => absurd h h1, fun _ _ => ⟨⟨fun j hj => gv_eq (hq_cell F (by decide)), fun j hj => gl_eq (hq_cell F (by decide))⟩, fun j hj => gv_eq (hq_cell F (by decide)), fun j hj => gl_eq (hq_cell F (by decide))⟩⟩
theorem mx_restore {d : Nat} {w : pi_W} {x : Int32} (hC : af_Conf aw_Sh w) : hq_F (d + 1) hm283 (fun _ w' => (x.toInt = 0 → ¬ (gv w 78 0).toInt = 0 → MP w w' 63 0 66 0 76 0 77 0) ∧ (x.toInt = 1 → ¬ (gv w 78 1).toInt = 0 → MP w w' 63 0 66 0 76 411 77 27) ∧ (¬ (x.toInt = 0 ∧ ¬ (gv w 78 0).toInt = 0) → ¬ (x.toInt = 1 ∧ ¬ (gv w 78 1).toInt = 0) → MP w w' 63 0 66 0 63 0 66 0)) (0, lv_args 0 [.ref 61, .int x], [], w) := by
  by_cases h0 : x.toInt = 0
  · obtain rfl : x = Int32.ofNat 0 := hn_e h0 (by decide)
    refine (mr_re (kk := 0) hC (by decide)).imp ?_
    rintro r w' ⟨q1, q2⟩
    refine ⟨fun _ h => ⟨fun j hj => ?_, fun j hj => ?_⟩, fun h => by omega, fun h _ => ?_⟩
    · have q := (q1 h).1 j (by omega)
      rw [Nat.mul_zero, Nat.zero_add] at q
      rw [Nat.zero_add]
      exact q
    · have q := (q1 h).2 j hj
      rw [Nat.mul_zero, Nat.zero_add] at q
      rw [Nat.zero_add]
      exact q
    · have e : (gv w 78 0).toInt = 0 := by
        by_cases e : (gv w 78 0).toInt = 0
        · exact e
        · exact absurd ⟨h0, e⟩ h
      exact ⟨fun j hj => by rw [Nat.zero_add]; exact (q2 e).1 j (by omega), fun j hj => by rw [Nat.zero_add]; exact (q2 e).2 j hj⟩
  · by_cases h1 : x.toInt = 1
    · obtain rfl : x = Int32.ofNat 1 := hn_e h1 (by decide)
      refine (mr_re (kk := 1) hC (by decide)).imp ?_
      rintro r w' ⟨q1, q2⟩
      refine ⟨fun h => by omega, fun _ h => ⟨fun j hj => ?_, fun j hj => ?_⟩, fun _ h => ?_⟩
      · rw [Nat.zero_add, (q1 h).1 j (by omega)]
      · rw [Nat.zero_add, (q1 h).2 j hj]
      · have e : (gv w 78 1).toInt = 0 := by
          by_cases e : (gv w 78 1).toInt = 0
          · exact e
          · exact absurd ⟨h1, e⟩ h
        exact ⟨fun j hj => by rw [Nat.zero_add]; exact (q2 e).1 j (by omega), fun j hj => by rw [Nat.zero_add]; exact (q2 e).2 j hj⟩
    · refine (mr_reN hC h0 h1).imp ?_
      intro r w' F
      exact ⟨fun h => absurd h h0, fun h => absurd h h1, fun _ _ => ⟨fun j hj => gv_eq (hq_cell F (by decide)), fun j hj => gl_eq (hq_cell F (by decide))⟩⟩
def cn_v (f : Nat → Int32) (b x : Int32) : Int32 := if 0 ≤ x.toInt ∧ x.toInt ≤ 4 then f x.toInt.toNat else if x.toInt = 5 then b else Int32.ofInt (-1)
theorem cx_count {d : Nat} {w : pi_W} {x : Int32} (hC : af_Conf aw_Sh w) : hq_F (d + 1) sm151 (fun r _ => r = some (.int (cn_v (fun k => gv w 5 k) (gv w 1 2) x))) (0, lv_args 0 [.ref 0, .int x], [], w) := by
  by_cases h4 : 0 ≤ x.toInt ∧ x.toInt ≤ 4
  · obtain ⟨k, hk5, rfl⟩ : ∃ k, k < 5 ∧ x = Int32.ofNat k := ⟨x.toInt.toNat, by omega, hn_e (by omega) (by omega)⟩
    have tk : (Int32.ofNat k).toInt = (k : Int) := hn_t (by omega)
    have hv : some (Value.int (cn_v (fun k => gv w 5 k) (gv w 1 2) (Int32.ofNat k))) = some (.int (gv w 5 k)) := by
      unfold cn_v
      rw [if_pos h4, show (Int32.ofNat k).toInt.toNat = k by omega]
    have g0 : pi_get (lv_args 0 [.ref 0, .int (Int32.ofNat k)]) 0 = some (.ref 0) := rfl
    have g1 : pi_get (lv_args 0 [.ref 0, .int (Int32.ofNat k)]) 1 = some (.int (Int32.ofNat k)) := rfl
    have kc0 : ((Int32.ofInt 4)).toInt = 4 := by decide
    have kz := sy_z0
    refine hq_F.st (s' := (1, _, _, _)) hj151_0 rfl rfl rfl (hs_iln g1) ?_
    refine hq_F.st (s' := (4, _, _, _)) hj151_1 rfl rfl rfl (hs_ifn (t := 21) (ci_ltn (by omega)) rfl) ?_
    refine hq_F.st (s' := (5, _, _, _)) hj151_4 rfl rfl rfl (hs_iln g1) ?_
    refine hq_F.st (s' := (6, _, _, _)) hj151_5 rfl rfl rfl rfl ?_
    refine hq_F.st (s' := (9, _, _, _)) hj151_6 rfl rfl rfl (hs_icn (t := 21) (ci_gtn (by omega)) rfl) ?_
    refine hq_F.st (s' := (10, _, _, _)) hj151_9 rfl rfl rfl (hs_al g0) ?_
    refine hq_F.st (s' := (13, _, _, _)) hj151_10 rfl rfl rfl (hq_gf hC sh_0 sk_10_19 (hq_ref hC sh_0 (b := 4) rfl)) ?_
    refine hq_F.st (s' := (16, _, _, _)) hj151_13 rfl rfl rfl (hq_gf hC sh_4 sk_10_37 (hq_ref hC sh_4 (b := 5) rfl)) ?_
    refine hq_F.st (s' := (17, _, _, _)) hj151_16 rfl rfl rfl (hs_iln g1) ?_
    refine hq_F.call hj151_17 rfl rfl si_10_152 (by decide) (by decide) sz_159 (sy_argsS rfl rfl rfl (Nat.le_of_ble_eq_true rfl) (by decide) rfl (Nat.le_of_ble_eq_true rfl) (by decide)) (ca_at hC sh_5 (j := k) (by omega) (by omega)) (fun _ _ q => by rw [q.1]) ?_
    rintro r17 w ⟨rfl, rfl⟩
    try dsimp only
    refine hq_F.en hj151_20 rfl (pi_ri _) ?_
    exact hv.symm
  · by_cases h5 : x.toInt = 5
    · have hv : some (Value.int (cn_v (fun k => gv w 5 k) (gv w 1 2) x)) = some (.int (gv w 1 2)) := by
        unfold cn_v
        rw [if_neg h4, if_pos h5]
      have g0 : pi_get (lv_args 0 [.ref 0, .int x]) 0 = some (.ref 0) := rfl
      have g1 : pi_get (lv_args 0 [.ref 0, .int x]) 1 = some (.int x) := rfl
      have kc0 : ((Int32.ofInt 4)).toInt = 4 := by decide
      have kc1 : ((Int32.ofInt 5)).toInt = 5 := by decide
      have kz := sy_z0
      refine hq_F.st (s' := (1, _, _, _)) hj151_0 rfl rfl rfl (hs_iln g1) ?_
      refine hq_F.st (s' := (4, _, _, _)) hj151_1 rfl rfl rfl (hs_ifn (t := 21) (ci_ltn (by omega)) rfl) ?_
      refine hq_F.st (s' := (5, _, _, _)) hj151_4 rfl rfl rfl (hs_iln g1) ?_
      refine hq_F.st (s' := (6, _, _, _)) hj151_5 rfl rfl rfl rfl ?_
      refine hq_F.st (s' := (21, _, _, _)) hj151_6 rfl rfl rfl (hs_ic (ci_gt (by omega)) rfl) ?_
      refine hq_F.st (s' := (22, _, _, _)) hj151_21 rfl rfl rfl (hs_iln g1) ?_
      refine hq_F.st (s' := (23, _, _, _)) hj151_22 rfl rfl rfl rfl ?_
      refine hq_F.st (s' := (26, _, _, _)) hj151_23 rfl rfl rfl (hs_icn (t := 36) (ci_nen (by omega)) rfl) ?_
      refine hq_F.st (s' := (27, _, _, _)) hj151_26 rfl rfl rfl (hs_al g0) ?_
      refine hq_F.st (s' := (30, _, _, _)) hj151_27 rfl rfl rfl (hq_gf hC sh_0 sk_10_12 (hq_ref hC sh_0 (b := 1) rfl)) ?_
      refine hq_F.st (s' := (33, _, _, _)) hj151_30 rfl rfl rfl (hq_gf hC sh_1 sk_10_118 (sy_v hC (by decide) rfl)) ?_
      refine hq_F.st (s' := (37, _, _, _)) hj151_33 rfl rfl rfl rfl ?_
      refine hq_F.en hj151_37 rfl (pi_ri _) ?_
      exact hv.symm
    · have hv : some (Value.int (cn_v (fun k => gv w 5 k) (gv w 1 2) x)) = some (.int (Int32.ofInt (-1))) := by
        unfold cn_v
        rw [if_neg h4, if_neg h5]
      have g0 : pi_get (lv_args 0 [.ref 0, .int x]) 0 = some (.ref 0) := rfl
      have g1 : pi_get (lv_args 0 [.ref 0, .int x]) 1 = some (.int x) := rfl
      have kc0 : ((Int32.ofInt (-1))).toInt = (-1) := by decide
      have kc1 : ((Int32.ofInt 4)).toInt = 4 := by decide
      have kc2 : ((Int32.ofInt 5)).toInt = 5 := by decide
      have kz := sy_z0
      refine hq_F.st (s' := (1, _, _, _)) hj151_0 rfl rfl rfl (hs_iln g1) ?_
      by_cases b1 : (x).toInt < 0
      · skip
        refine hq_F.st (s' := (21, _, _, _)) hj151_1 rfl rfl rfl (hs_if (ci_lt (by omega)) rfl) ?_
        refine hq_F.st (s' := (22, _, _, _)) hj151_21 rfl rfl rfl (hs_iln g1) ?_
        refine hq_F.st (s' := (23, _, _, _)) hj151_22 rfl rfl rfl rfl ?_
        refine hq_F.st (s' := (36, _, _, _)) hj151_23 rfl rfl rfl (hs_ic (ci_ne (by omega)) rfl) ?_
        refine hq_F.st (s' := (37, _, _, _)) hj151_36 rfl rfl rfl rfl ?_
        refine hq_F.en hj151_37 rfl rfl ?_
        exact hv.symm
      · skip
        refine hq_F.st (s' := (4, _, _, _)) hj151_1 rfl rfl rfl (hs_ifn (t := 21) (ci_ltn (by omega)) rfl) ?_
        refine hq_F.st (s' := (5, _, _, _)) hj151_4 rfl rfl rfl (hs_iln g1) ?_
        refine hq_F.st (s' := (6, _, _, _)) hj151_5 rfl rfl rfl rfl ?_
        refine hq_F.st (s' := (21, _, _, _)) hj151_6 rfl rfl rfl (hs_ic (ci_gt (by omega)) rfl) ?_
        refine hq_F.st (s' := (22, _, _, _)) hj151_21 rfl rfl rfl (hs_iln g1) ?_
        refine hq_F.st (s' := (23, _, _, _)) hj151_22 rfl rfl rfl rfl ?_
        refine hq_F.st (s' := (36, _, _, _)) hj151_23 rfl rfl rfl (hs_ic (ci_ne (by omega)) rfl) ?_
        refine hq_F.st (s' := (37, _, _, _)) hj151_36 rfl rfl rfl rfl ?_
        refine hq_F.en hj151_37 rfl rfl ?_
        exact hv.symm
theorem mx_count {d : Nat} {w : pi_W} {x : Int32} (hC : af_Conf aw_Sh w) : hq_F (d + 1) sm284 (fun r _ => r = some (.int (cn_v (fun k => gv w 63 k) (gv w 61 2) x))) (0, lv_args 0 [.ref 61, .int x], [], w) := by
  by_cases h4 : 0 ≤ x.toInt ∧ x.toInt ≤ 4
  · obtain ⟨k, hk5, rfl⟩ : ∃ k, k < 5 ∧ x = Int32.ofNat k := ⟨x.toInt.toNat, by omega, hn_e (by omega) (by omega)⟩
    have tk : (Int32.ofNat k).toInt = (k : Int) := hn_t (by omega)
    have hv : some (Value.int (cn_v (fun k => gv w 63 k) (gv w 61 2) (Int32.ofNat k))) = some (.int (gv w 63 k)) := by
      unfold cn_v
      rw [if_pos h4, show (Int32.ofNat k).toInt.toNat = k by omega]
    have g0 : pi_get (lv_args 0 [.ref 61, .int (Int32.ofNat k)]) 0 = some (.ref 61) := rfl
    have g1 : pi_get (lv_args 0 [.ref 61, .int (Int32.ofNat k)]) 1 = some (.int (Int32.ofNat k)) := rfl
    have kc0 : ((0 : Int32)).toInt = 0 := by decide
    have kc1 : ((1 : Int32)).toInt = 1 := by decide
    have kc2 : ((Int32.ofInt 0)).toInt = 0 := by decide
    have kc3 : ((Int32.ofInt 4)).toInt = 4 := by decide
    have kc4 : ((Int32.ofInt 5)).toInt = 5 := by decide
    have kz := sy_z0
    refine hq_F.st (s' := (1, _, _, _)) hj284_0 rfl rfl rfl (hs_al g0) ?_
    refine hq_F.st (s' := (2, _, _, _)) hj284_1 rfl rfl rfl rfl ?_
    refine sy_pf hj284_2 hC sh_61 sk_11_1 (lo := -2147483648) (hi := 2147483647) rfl (af_i32 _) rfl rfl rfl (fun w21 hC21 hw21 => ?_)
    refine hq_F.st (s' := (6, _, _, _)) hj284_5 rfl rfl rfl (hs_iln g1) ?_
    refine hq_F.st (s' := (7, _, _, _)) hj284_6 rfl rfl rfl rfl ?_
    refine hq_F.st (s' := (17, _, _, _)) hj284_7 rfl rfl rfl (hs_ic (ci_ne (by omega)) rfl) ?_
    refine hq_F.st (s' := (18, _, _, _)) hj284_17 rfl rfl rfl (hs_iln g1) ?_
    refine hq_F.st (s' := (19, _, _, _)) hj284_18 rfl rfl rfl rfl ?_
    refine hq_F.st (s' := (20, _, _, _)) hj284_19 rfl rfl rfl rfl ?_
    refine hq_F.call hj284_20 rfl rfl si_11_184 (by decide) (by decide) sz_167 (sy_argsS rfl rfl rfl (Nat.le_of_ble_eq_true rfl) (by decide) rfl (Nat.le_of_ble_eq_true rfl) (by decide)) mt_in (fun _ _ q => by rw [q.1]) ?_
    rintro r20 w21 ⟨rfl, rfl⟩
    try dsimp only
    rw [show decide ((Int32.ofInt 0).toInt ≤ (Int32.ofNat k).toInt ∧ (Int32.ofNat k).toInt ≤ (Int32.ofInt 4).toInt) = true from decide_eq_true (by omega), show tq_b true = (1 : Int32) from rfl]
    refine hq_F.st (s' := (26, _, _, _)) hj284_23 rfl rfl rfl (hs_ifn (t := 35) (ci_eqn (by omega)) rfl) ?_
    refine hq_F.st (s' := (27, _, _, _)) hj284_26 rfl rfl rfl (hs_al g0) ?_
    refine hq_F.st (s' := (30, _, _, _)) hj284_27 rfl rfl rfl (hq_gf hC21 sh_61 sk_11_33 (hq_ref hC21 sh_61 (b := 63) rfl)) ?_
    refine hq_F.st (s' := (31, _, _, _)) hj284_30 rfl rfl rfl (hs_iln g1) ?_
    refine hq_F.st (s' := (32, _, _, _)) hj284_31 rfl rfl rfl (sy_iav hC21 hq_s63 (n := k) tk (by omega)) ?_
    rw [show gv w21 63 k = gv w 63 k from by rw [wpv hw21, if_neg (by omega)]]
    refine hq_F.st (s' := (36, _, _, _)) hj284_32 rfl rfl rfl rfl ?_
    refine hq_F.en hj284_36 rfl (pi_ri _) ?_
    exact hv.symm
  · by_cases h5 : x.toInt = 5
    · have hv : some (Value.int (cn_v (fun k => gv w 63 k) (gv w 61 2) x)) = some (.int (gv w 61 2)) := by
        unfold cn_v
        rw [if_neg h4, if_pos h5]
      have g0 : pi_get (lv_args 0 [.ref 61, .int x]) 0 = some (.ref 61) := rfl
      have g1 : pi_get (lv_args 0 [.ref 61, .int x]) 1 = some (.int x) := rfl
      have kc0 : ((0 : Int32)).toInt = 0 := by decide
      have kc1 : ((1 : Int32)).toInt = 1 := by decide
      have kc2 : ((Int32.ofInt 0)).toInt = 0 := by decide
      have kc3 : ((Int32.ofInt 5)).toInt = 5 := by decide
      have kz := sy_z0
      refine hq_F.st (s' := (1, _, _, _)) hj284_0 rfl rfl rfl (hs_al g0) ?_
      refine hq_F.st (s' := (2, _, _, _)) hj284_1 rfl rfl rfl rfl ?_
      refine sy_pf hj284_2 hC sh_61 sk_11_1 (lo := -2147483648) (hi := 2147483647) rfl (af_i32 _) rfl rfl rfl (fun w21 hC21 hw21 => ?_)
      refine hq_F.st (s' := (6, _, _, _)) hj284_5 rfl rfl rfl (hs_iln g1) ?_
      refine hq_F.st (s' := (7, _, _, _)) hj284_6 rfl rfl rfl rfl ?_
      refine hq_F.st (s' := (10, _, _, _)) hj284_7 rfl rfl rfl (hs_icn (t := 17) (ci_nen (by omega)) rfl) ?_
      refine hq_F.st (s' := (11, _, _, _)) hj284_10 rfl rfl rfl (hs_al g0) ?_
      refine hq_F.st (s' := (14, _, _, _)) hj284_11 rfl rfl rfl (hq_gf hC21 sh_61 sk_11_7 (sy_v hC21 (by decide) rfl)) ?_
      have q11 : (gv w21 61 2).toInt = (gv w 61 2).toInt := by rw [wpv hw21, if_neg (by decide)]
      refine hq_F.st (s' := (36, _, _, _)) hj284_14 rfl rfl rfl rfl ?_
      refine hq_F.en hj284_36 rfl (pi_ri _) ?_
      rw [show gv w21 61 2 = gv w 61 2 from by rw [wpv hw21, if_neg (by decide)]]
      exact hv.symm
    · have hv : some (Value.int (cn_v (fun k => gv w 63 k) (gv w 61 2) x)) = some (.int (Int32.ofInt (-1))) := by
        unfold cn_v
        rw [if_neg h4, if_neg h5]
      have g0 : pi_get (lv_args 0 [.ref 61, .int x]) 0 = some (.ref 61) := rfl
      have g1 : pi_get (lv_args 0 [.ref 61, .int x]) 1 = some (.int x) := rfl
      have kc0 : ((0 : Int32)).toInt = 0 := by decide
      have kc1 : ((1 : Int32)).toInt = 1 := by decide
      have kc2 : ((Int32.ofInt (-1))).toInt = (-1) := by decide
      have kc3 : ((Int32.ofInt 0)).toInt = 0 := by decide
      have kc4 : ((Int32.ofInt 4)).toInt = 4 := by decide
      have kc5 : ((Int32.ofInt 5)).toInt = 5 := by decide
      have kz := sy_z0
      refine hq_F.st (s' := (1, _, _, _)) hj284_0 rfl rfl rfl (hs_al g0) ?_
      refine hq_F.st (s' := (2, _, _, _)) hj284_1 rfl rfl rfl rfl ?_
      refine sy_pf hj284_2 hC sh_61 sk_11_1 (lo := -2147483648) (hi := 2147483647) rfl (af_i32 _) rfl rfl rfl (fun w21 hC21 hw21 => ?_)
      refine hq_F.st (s' := (6, _, _, _)) hj284_5 rfl rfl rfl (hs_iln g1) ?_
      refine hq_F.st (s' := (7, _, _, _)) hj284_6 rfl rfl rfl rfl ?_
      refine hq_F.st (s' := (17, _, _, _)) hj284_7 rfl rfl rfl (hs_ic (ci_ne (by omega)) rfl) ?_
      refine hq_F.st (s' := (18, _, _, _)) hj284_17 rfl rfl rfl (hs_iln g1) ?_
      refine hq_F.st (s' := (19, _, _, _)) hj284_18 rfl rfl rfl rfl ?_
      refine hq_F.st (s' := (20, _, _, _)) hj284_19 rfl rfl rfl rfl ?_
      refine hq_F.call hj284_20 rfl rfl si_11_184 (by decide) (by decide) sz_167 (sy_argsS rfl rfl rfl (Nat.le_of_ble_eq_true rfl) (by decide) rfl (Nat.le_of_ble_eq_true rfl) (by decide)) mt_in (fun _ _ q => by rw [q.1]) ?_
      rintro r20 w21 ⟨rfl, rfl⟩
      try dsimp only
      rw [show decide ((Int32.ofInt 0).toInt ≤ (x).toInt ∧ (x).toInt ≤ (Int32.ofInt 4).toInt) = false from decide_eq_false (by omega), show tq_b false = (0 : Int32) from rfl]
      refine hq_F.st (s' := (35, _, _, _)) hj284_23 rfl rfl rfl (hs_if (ci_eq (by omega)) rfl) ?_
      refine hq_F.st (s' := (36, _, _, _)) hj284_35 rfl rfl rfl rfl ?_
      refine hq_F.en hj284_36 rfl rfl ?_
      exact hv.symm
