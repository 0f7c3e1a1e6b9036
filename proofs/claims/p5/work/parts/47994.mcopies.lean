/-! ===== copies of a LAND in the model; by program ===== -/
theorem sk_11_247 : pi_look pi_fT 11 247 = some (11, 22, 1269) := rfl
theorem sk_11_75 : pi_look pi_fT 11 75 = some (11, 42, 1289) := rfl
theorem sk_11_78 : pi_look pi_fT 11 78 = some (11, 43, 1290) := rfl
theorem sk_11_81 : pi_look pi_fT 11 81 = some (11, 44, 1291) := rfl
def sf_63 : List (Nat × Int × Int) := match (aw_Sh[63]? : Option af_C) with
  | some (.inl (_, _, S)) => S
  | _ => []
theorem sh_63 : aw_Sh[63]? = some (.inl (0, 411, sf_63)) := rfl
def sf_76 : List (Nat × Int × Int) := match (aw_Sh[76]? : Option af_C) with
  | some (.inl (_, _, S)) => S
  | _ => []
theorem sh_76 : aw_Sh[76]? = some (.inl (0, 822, sf_76)) := rfl
def sf_77 : List (Nat × Int × Int) := match (aw_Sh[77]? : Option af_C) with
  | some (.inl (_, _, S)) => S
  | _ => []
theorem sh_77 : aw_Sh[77]? = some (.inl (2, 54, sf_77)) := rfl
def sf_78 : List (Nat × Int × Int) := match (aw_Sh[78]? : Option af_C) with
  | some (.inl (_, _, S)) => S
  | _ => []
theorem sh_78 : aw_Sh[78]? = some (.inl (3, 2, sf_78)) := rfl

theorem hq_c1 {a lo hi c : Nat} (h : a ≠ c) : ∀ e ∈ [(a, lo, hi)], e.1 ≠ c := fun e he => by
  rw [List.mem_singleton.mp he]
  exact h
theorem sq_76 : ∀ k, k < 2 → ∀ j, j < 411 → af_seg sf_76 (411 * k + j) = af_seg hq_S63 j := by decide +kernel
theorem hn_41 {k j : Nat} : ((Int16.ofInt 411).toInt32) * Int32.ofNat k + Int32.ofNat j = Int32.ofNat (411 * k + j) := by
  rw [show ((Int16.ofInt 411).toInt32) = Int32.ofNat 411 by decide, ← Int32.ofNat_mul, hn_a]
theorem hn_27 {k j : Nat} : ((Int8.ofInt 27).toInt32) * Int32.ofNat k + Int32.ofNat j = Int32.ofNat (27 * k + j) := by
  rw [show ((Int8.ofInt 27).toInt32) = Int32.ofNat 27 by decide, ← Int32.ofNat_mul, hn_a]
theorem sr_63 {w : pi_W} {j : Nat} (hC : af_Conf aw_Sh w) (hj : j < 411) : ∃ q, af_seg hq_S63 j = some q ∧ q.1 ≤ (gv w 63 j).toInt ∧ (gv w 63 j).toInt ≤ q.2 := by
  obtain ⟨sf, hsf⟩ := hq_arrb hC hq_s63 (by decide)
  obtain ⟨h1, q, h2, h3⟩ := hsf j hj
  exact ⟨q, h2, by rw [gv_of h1]; exact h3⟩
theorem sr_76 {w : pi_W} {j : Nat} (hC : af_Conf aw_Sh w) (hj : j < 822) : ∃ q, af_seg sf_76 j = some q ∧ q.1 ≤ (gv w 76 j).toInt ∧ (gv w 76 j).toInt ≤ q.2 := by
  obtain ⟨sf, hsf⟩ := hq_arrb hC sh_76 (by decide)
  obtain ⟨h1, q, h2, h3⟩ := hsf j hj
  exact ⟨q, h2, by rw [gv_of h1]; exact h3⟩
theorem sr_im {w : pi_W} {k j : Nat} (hC : af_Conf aw_Sh w) (hk : k < 2) (hj : j < 411) : ∀ q, af_seg sf_76 (411 * k + j) = some q → q.1 ≤ (gv w 63 j).toInt ∧ (gv w 63 j).toInt ≤ q.2 := fun q hq => by
  obtain ⟨q', h1, h2⟩ := sr_63 hC hj
  rw [sq_76 k hk j hj, h1] at hq
  cases hq
  exact h2
theorem sr_re {w : pi_W} {k j : Nat} (hC : af_Conf aw_Sh w) (hk : k < 2) (hj : j < 411) : ∀ q, af_seg hq_S63 j = some q → q.1 ≤ (gv w 76 (411 * k + j)).toInt ∧ (gv w 76 (411 * k + j)).toInt ≤ q.2 := fun q hq => by
  obtain ⟨q', h1, h2⟩ := sr_76 hC (j := 411 * k + j) (by omega)
  rw [sq_76 k hk j hj, hq] at h1
  cases h1
  exact h2
theorem sy_ba3 {own nL pc a m n : Nat} {ini : Bool} {lv : pi_L} {r : List Value} {w : pi_W} {j : Int32} {S : List (Nat × Int × Int)} (hC : af_Conf aw_Sh w) (hSh : aw_Sh[a]? = some (.inl (3, m, S))) (hj : j.toInt = (n : Int)) (hn : n < m) : pi_step own ini nL .baload 1 (pc, lv, .int j :: .ref a :: r, w) = some (pc + 1, lv, .int (gv w a n) :: r, w) := by
  obtain ⟨e, he, hoc⟩ := hC.at hSh
  obtain ⟨fn, rfl, -⟩ := af_okA.int (by decide) hoc
  obtain ⟨c1, c2⟩ := af_cl (x := j) (by omega)
  have e1 : j.toNatClampNeg = n := by omega
  have hg : gv w a n = fn n := gv_of (by
    unfold af_wloc
    rw [he]
    simp only [af_cloc, if_pos hn])
  have h0 : ¬ (j < 0 ∨ m ≤ n) := by
    rintro (q | q)
    · exact c1 q
    · omega
  simp only [pi_step, he, e1, h0, if_true, if_false, hg]
theorem mi_row {d : Nat} {kk : Nat} {w0 : pi_W} {Q : Option Value → pi_W → Prop} (hk : kk < 2) (hQ : ∀ (w : pi_W) (lv : pi_L), af_Conf aw_Sh w → af_Fr [(76, 411 * kk + 0, 411 * kk + 0 + 411)] w0 w → (∀ j, j < 411 → gv w 76 (411 * kk + j) = gv w0 63 (j)) → pi_get lv 0 = some (.ref 61) → pi_get lv 1 = some (.int (Int32.ofNat kk)) → hq_F d hm282 Q (49, lv, [], w)) : ∀ (n i : Nat) {w : pi_W} {lv : pi_L}, i + n = 411 → af_Conf aw_Sh w → af_Fr [(76, 411 * kk + 0, 411 * kk + 0 + 411)] w0 w → (∀ j, j < i → gv w 76 (411 * kk + j) = gv w0 63 (j)) → pi_get lv 0 = some (.ref 61) → pi_get lv 1 = some (.int (Int32.ofNat kk)) → pi_get lv 2 = some (.int (Int32.ofNat i)) → hq_F d hm282 Q (18, lv, [], w) := by
  intro n
  induction n with
  | zero =>
    intro i w lv hi hC hF hj2 g0 g1 gi
    have ti : (Int32.ofNat i).toInt = (i : Int) := hn_t (by omega)
    have kc0 : (((Int16.ofInt 411).toInt32)).toInt = 411 := by decide
    have kz := sy_z0
    refine hq_F.st (s' := (19, _, _, _)) hf282_18 rfl rfl rfl (hs_iln gi) ?_
    refine hq_F.st (s' := (22, _, _, _)) hf282_19 rfl rfl rfl rfl ?_
    refine hq_F.st (s' := (49, _, _, _)) hf282_22 rfl rfl rfl (hs_ic (ci_ge (by omega)) rfl) ?_
    exact hQ w _ hC hF (fun j hj => hj2 j (by omega)) g0 g1
  | succ n ih =>
    intro i w lv hi hC hF hj2 g0 g1 gi
    have ti : (Int32.ofNat i).toInt = (i : Int) := hn_t (by omega)
    have kc0 : (((Int16.ofInt 411).toInt32)).toInt = 411 := by decide
    have kz := sy_z0
    refine hq_F.st (s' := (19, _, _, _)) hf282_18 rfl rfl rfl (hs_iln gi) ?_
    refine hq_F.st (s' := (22, _, _, _)) hf282_19 rfl rfl rfl rfl ?_
    refine hq_F.st (s' := (25, _, _, _)) hf282_22 rfl rfl rfl (hs_icn (t := 49) (ci_gen (by omega)) rfl) ?_
    refine hq_F.st (s' := (26, _, _, _)) hf282_25 rfl rfl rfl (hs_al g0) ?_
    refine hq_F.st (s' := (29, _, _, _)) hf282_26 rfl rfl rfl (hq_gf hC sh_61 sk_11_75 (hq_ref hC sh_61 (b := 76) rfl)) ?_
    refine hq_F.st (s' := (32, _, _, _)) hf282_29 rfl rfl rfl rfl ?_
    refine hq_F.st (s' := (33, _, _, _)) hf282_32 rfl rfl rfl (hs_iln g1) ?_
    refine hq_F.st (s' := (34, _, _, _)) hf282_33 rfl rfl rfl rfl ?_
    refine hq_F.st (s' := (35, _, _, _)) hf282_34 rfl rfl rfl (hs_iln gi) ?_
    refine hq_F.st (s' := (36, _, _, _)) hf282_35 rfl rfl rfl rfl ?_
    refine hq_F.st (s' := (37, _, _, _)) hf282_36 rfl rfl rfl (hs_al g0) ?_
    refine hq_F.st (s' := (40, _, _, _)) hf282_37 rfl rfl rfl (hq_gf hC sh_61 sk_11_33 (hq_ref hC sh_61 (b := 63) rfl)) ?_
    refine hq_F.st (s' := (41, _, _, _)) hf282_40 rfl rfl rfl (hs_iln gi) ?_
    refine hq_F.st (s' := (42, _, _, _)) hf282_41 rfl rfl rfl (sy_iav hC hq_s63 (n := i) ti (by omega)) ?_
    refine sy_isv hf282_42 hC sh_76 (n := 411 * kk + i) (by rw [hn_41]; exact hn_t (by omega)) (by omega) (sr_im hC hk (by omega)) (fun w1 hC1 hw1 => ?_)
    refine hq_F.st (s' := (46, _, _, _)) hf282_43 rfl rfl rfl (hs_inc gi (by decide)) ?_
    refine hq_F.st (s' := (18, _, _, _)) hf282_46 rfl rfl rfl rfl ?_
    refine ih (i + 1) (by omega) hC1 (hF.tr (hq_fr1 hw1 (by omega))) (fun j hj => ?_) (hg_nr g0 (by decide)) (hg_ne g1 (by decide)) (by rw [← hn_s]; exact (pi_get_set _ _ _))
    rw [wpv hw1]
    by_cases e : j = i
    · subst e
      rw [if_pos ⟨rfl, rfl⟩]
      exact gv_eq (hq_cell hF (hq_c1 (by decide)))
    · rw [if_neg (fun q => e (by omega))]
      exact hj2 j (by omega)
theorem mi_nam {d : Nat} {kk : Nat} {w0 : pi_W} {Q : Option Value → pi_W → Prop} (hk : kk < 2) (hQ : ∀ (w : pi_W) (lv : pi_L), af_Conf aw_Sh w → af_Fr [(77, 27 * kk + 0, 27 * kk + 0 + 27)] w0 w → (∀ j, j < 27 → gl w 77 (27 * kk + j) = gl w0 66 (j)) → pi_get lv 0 = some (.ref 61) → pi_get lv 1 = some (.int (Int32.ofNat kk)) → hq_F d hm282 Q (80, lv, [], w)) : ∀ (n i : Nat) {w : pi_W} {lv : pi_L}, i + n = 27 → af_Conf aw_Sh w → af_Fr [(77, 27 * kk + 0, 27 * kk + 0 + 27)] w0 w → (∀ j, j < i → gl w 77 (27 * kk + j) = gl w0 66 (j)) → pi_get lv 0 = some (.ref 61) → pi_get lv 1 = some (.int (Int32.ofNat kk)) → pi_get lv 2 = some (.int (Int32.ofNat i)) → hq_F d hm282 Q (51, lv, [], w) := by
  intro n
  induction n with
  | zero =>
    intro i w lv hi hC hF hj2 g0 g1 gi
    have ti : (Int32.ofNat i).toInt = (i : Int) := hn_t (by omega)
    have kc0 : (((Int8.ofInt 27).toInt32)).toInt = 27 := by decide
    have kz := sy_z0
    refine hq_F.st (s' := (52, _, _, _)) hf282_51 rfl rfl rfl (hs_iln gi) ?_
    refine hq_F.st (s' := (54, _, _, _)) hf282_52 rfl rfl rfl rfl ?_
    refine hq_F.st (s' := (80, _, _, _)) hf282_54 rfl rfl rfl (hs_ic (ci_ge (by omega)) rfl) ?_
    exact hQ w _ hC hF (fun j hj => hj2 j (by omega)) g0 g1
  | succ n ih =>
    intro i w lv hi hC hF hj2 g0 g1 gi
    have ti : (Int32.ofNat i).toInt = (i : Int) := hn_t (by omega)
    have kc0 : (((Int8.ofInt 27).toInt32)).toInt = 27 := by decide
    have kz := sy_z0
    refine hq_F.st (s' := (52, _, _, _)) hf282_51 rfl rfl rfl (hs_iln gi) ?_
    refine hq_F.st (s' := (54, _, _, _)) hf282_52 rfl rfl rfl rfl ?_
    refine hq_F.st (s' := (57, _, _, _)) hf282_54 rfl rfl rfl (hs_icn (t := 80) (ci_gen (by omega)) rfl) ?_
    refine hq_F.st (s' := (58, _, _, _)) hf282_57 rfl rfl rfl (hs_al g0) ?_
    refine hq_F.st (s' := (61, _, _, _)) hf282_58 rfl rfl rfl (hq_gf hC sh_61 sk_11_78 (hq_ref hC sh_61 (b := 77) rfl)) ?_
    refine hq_F.st (s' := (63, _, _, _)) hf282_61 rfl rfl rfl rfl ?_
    refine hq_F.st (s' := (64, _, _, _)) hf282_63 rfl rfl rfl (hs_iln g1) ?_
    refine hq_F.st (s' := (65, _, _, _)) hf282_64 rfl rfl rfl rfl ?_
    refine hq_F.st (s' := (66, _, _, _)) hf282_65 rfl rfl rfl (hs_iln gi) ?_
    refine hq_F.st (s' := (67, _, _, _)) hf282_66 rfl rfl rfl rfl ?_
    refine hq_F.st (s' := (68, _, _, _)) hf282_67 rfl rfl rfl (hs_al g0) ?_
    refine hq_F.st (s' := (71, _, _, _)) hf282_68 rfl rfl rfl (hq_gf hC sh_61 sk_11_43 (hq_ref hC sh_61 (b := 66) rfl)) ?_
    refine hq_F.st (s' := (72, _, _, _)) hf282_71 rfl rfl rfl (hs_iln gi) ?_
    refine hq_F.st (s' := (73, _, _, _)) hf282_72 rfl rfl rfl (sy_la hC sh_66 (n := i) ti (by omega)) ?_
    refine sy_lsv hf282_73 hC sh_77 (n := 27 * kk + i) (by rw [hn_27]; exact hn_t (by omega)) (by omega) (fun w1 hC1 hw1 => ?_)
    refine hq_F.st (s' := (77, _, _, _)) hf282_74 rfl rfl rfl (hs_inc gi (by decide)) ?_
    refine hq_F.st (s' := (51, _, _, _)) hf282_77 rfl rfl rfl rfl ?_
    refine ih (i + 1) (by omega) hC1 (hF.tr (hq_fr1 hw1 (by omega))) (fun j hj => ?_) (hg_nr g0 (by decide)) (hg_ne g1 (by decide)) (by rw [← hn_s]; exact (pi_get_set _ _ _))
    rw [wpl hw1]
    by_cases e : j = i
    · subst e
      rw [if_pos ⟨rfl, rfl⟩]
      exact gl_eq (hq_cell hF (hq_c1 (by decide)))
    · rw [if_neg (fun q => e (by omega))]
      exact hj2 j (by omega)
theorem mr_row {d : Nat} {kk : Nat} {w0 : pi_W} {Q : Option Value → pi_W → Prop} (hk : kk < 2) (hQ : ∀ (w : pi_W) (lv : pi_L), af_Conf aw_Sh w → af_Fr [(63, 0, 411)] w0 w → (∀ j, j < 411 → gv w 63 (j) = gv w0 76 (411 * kk + j)) → pi_get lv 0 = some (.ref 61) → pi_get lv 1 = some (.int (Int32.ofNat kk)) → hq_F d hm283 Q (58, lv, [], w)) : ∀ (n i : Nat) {w : pi_W} {lv : pi_L}, i + n = 411 → af_Conf aw_Sh w → af_Fr [(63, 0, 411)] w0 w → (∀ j, j < i → gv w 63 (j) = gv w0 76 (411 * kk + j)) → pi_get lv 0 = some (.ref 61) → pi_get lv 1 = some (.int (Int32.ofNat kk)) → pi_get lv 2 = some (.int (Int32.ofNat i)) → hq_F d hm283 Q (27, lv, [], w) := by
  intro n
  induction n with
  | zero =>
    intro i w lv hi hC hF hj2 g0 g1 gi
    have ti : (Int32.ofNat i).toInt = (i : Int) := hn_t (by omega)
    have kc0 : (((Int16.ofInt 411).toInt32)).toInt = 411 := by decide
    have kz := sy_z0
    refine hq_F.st (s' := (28, _, _, _)) hf283_27 rfl rfl rfl (hs_iln gi) ?_
    refine hq_F.st (s' := (31, _, _, _)) hf283_28 rfl rfl rfl rfl ?_
    refine hq_F.st (s' := (58, _, _, _)) hf283_31 rfl rfl rfl (hs_ic (ci_ge (by omega)) rfl) ?_
    exact hQ w _ hC hF (fun j hj => hj2 j (by omega)) g0 g1
  | succ n ih =>
    intro i w lv hi hC hF hj2 g0 g1 gi
    have ti : (Int32.ofNat i).toInt = (i : Int) := hn_t (by omega)
    have kc0 : (((Int16.ofInt 411).toInt32)).toInt = 411 := by decide
    have kz := sy_z0
    refine hq_F.st (s' := (28, _, _, _)) hf283_27 rfl rfl rfl (hs_iln gi) ?_
    refine hq_F.st (s' := (31, _, _, _)) hf283_28 rfl rfl rfl rfl ?_
    refine hq_F.st (s' := (34, _, _, _)) hf283_31 rfl rfl rfl (hs_icn (t := 58) (ci_gen (by omega)) rfl) ?_
    refine hq_F.st (s' := (35, _, _, _)) hf283_34 rfl rfl rfl (hs_al g0) ?_
    refine hq_F.st (s' := (38, _, _, _)) hf283_35 rfl rfl rfl (hq_gf hC sh_61 sk_11_33 (hq_ref hC sh_61 (b := 63) rfl)) ?_
    refine hq_F.st (s' := (39, _, _, _)) hf283_38 rfl rfl rfl (hs_iln gi) ?_
    refine hq_F.st (s' := (40, _, _, _)) hf283_39 rfl rfl rfl (hs_al g0) ?_
    refine hq_F.st (s' := (43, _, _, _)) hf283_40 rfl rfl rfl (hq_gf hC sh_61 sk_11_75 (hq_ref hC sh_61 (b := 76) rfl)) ?_
    refine hq_F.st (s' := (46, _, _, _)) hf283_43 rfl rfl rfl rfl ?_
    refine hq_F.st (s' := (47, _, _, _)) hf283_46 rfl rfl rfl (hs_iln g1) ?_
    refine hq_F.st (s' := (48, _, _, _)) hf283_47 rfl rfl rfl rfl ?_
    refine hq_F.st (s' := (49, _, _, _)) hf283_48 rfl rfl rfl (hs_iln gi) ?_
    refine hq_F.st (s' := (50, _, _, _)) hf283_49 rfl rfl rfl rfl ?_
    refine hq_F.st (s' := (51, _, _, _)) hf283_50 rfl rfl rfl (sy_iav hC sh_76 (n := 411 * kk + i) (by rw [hn_41]; exact hn_t (by omega)) (by omega)) ?_
    refine sy_isv hf283_51 hC hq_s63 (n := i) ti (by omega) (sr_re hC hk (by omega)) (fun w1 hC1 hw1 => ?_)
    refine hq_F.st (s' := (55, _, _, _)) hf283_52 rfl rfl rfl (hs_inc gi (by decide)) ?_
    refine hq_F.st (s' := (27, _, _, _)) hf283_55 rfl rfl rfl rfl ?_
    refine ih (i + 1) (by omega) hC1 (hF.tr (hq_fr1 hw1 (by omega))) (fun j hj => ?_) (hg_nr g0 (by decide)) (hg_ne g1 (by decide)) (by rw [← hn_s]; exact (pi_get_set _ _ _))
    rw [wpv hw1]
    by_cases e : j = i
    · subst e
      rw [if_pos ⟨rfl, rfl⟩]
      exact gv_eq (hq_cell hF (hq_c1 (by decide)))
    · rw [if_neg (fun q => e (by omega))]
      exact hj2 j (by omega)
theorem mr_nam {d : Nat} {kk : Nat} {w0 : pi_W} {Q : Option Value → pi_W → Prop} (hk : kk < 2) (hQ : ∀ (w : pi_W) (lv : pi_L), af_Conf aw_Sh w → af_Fr [(66, 0, 27)] w0 w → (∀ j, j < 27 → gl w 66 (j) = gl w0 77 (27 * kk + j)) → pi_get lv 0 = some (.ref 61) → pi_get lv 1 = some (.int (Int32.ofNat kk)) → hq_F d hm283 Q (89, lv, [], w)) : ∀ (n i : Nat) {w : pi_W} {lv : pi_L}, i + n = 27 → af_Conf aw_Sh w → af_Fr [(66, 0, 27)] w0 w → (∀ j, j < i → gl w 66 (j) = gl w0 77 (27 * kk + j)) → pi_get lv 0 = some (.ref 61) → pi_get lv 1 = some (.int (Int32.ofNat kk)) → pi_get lv 2 = some (.int (Int32.ofNat i)) → hq_F d hm283 Q (60, lv, [], w) := by
  intro n
  induction n with
  | zero =>
    intro i w lv hi hC hF hj2 g0 g1 gi
    have ti : (Int32.ofNat i).toInt = (i : Int) := hn_t (by omega)
    have kc0 : (((Int8.ofInt 27).toInt32)).toInt = 27 := by decide
    have kz := sy_z0
    refine hq_F.st (s' := (61, _, _, _)) hf283_60 rfl rfl rfl (hs_iln gi) ?_
    refine hq_F.st (s' := (63, _, _, _)) hf283_61 rfl rfl rfl rfl ?_
    refine hq_F.st (s' := (89, _, _, _)) hf283_63 rfl rfl rfl (hs_ic (ci_ge (by omega)) rfl) ?_
    exact hQ w _ hC hF (fun j hj => hj2 j (by omega)) g0 g1
  | succ n ih =>
    intro i w lv hi hC hF hj2 g0 g1 gi
    have ti : (Int32.ofNat i).toInt = (i : Int) := hn_t (by omega)
    have kc0 : (((Int8.ofInt 27).toInt32)).toInt = 27 := by decide
    have kz := sy_z0
    refine hq_F.st (s' := (61, _, _, _)) hf283_60 rfl rfl rfl (hs_iln gi) ?_
    refine hq_F.st (s' := (63, _, _, _)) hf283_61 rfl rfl rfl rfl ?_
    refine hq_F.st (s' := (66, _, _, _)) hf283_63 rfl rfl rfl (hs_icn (t := 89) (ci_gen (by omega)) rfl) ?_
    refine hq_F.st (s' := (67, _, _, _)) hf283_66 rfl rfl rfl (hs_al g0) ?_
    refine hq_F.st (s' := (70, _, _, _)) hf283_67 rfl rfl rfl (hq_gf hC sh_61 sk_11_43 (hq_ref hC sh_61 (b := 66) rfl)) ?_
    refine hq_F.st (s' := (71, _, _, _)) hf283_70 rfl rfl rfl (hs_iln gi) ?_
    refine hq_F.st (s' := (72, _, _, _)) hf283_71 rfl rfl rfl (hs_al g0) ?_
    refine hq_F.st (s' := (75, _, _, _)) hf283_72 rfl rfl rfl (hq_gf hC sh_61 sk_11_78 (hq_ref hC sh_61 (b := 77) rfl)) ?_
    refine hq_F.st (s' := (77, _, _, _)) hf283_75 rfl rfl rfl rfl ?_
    refine hq_F.st (s' := (78, _, _, _)) hf283_77 rfl rfl rfl (hs_iln g1) ?_
    refine hq_F.st (s' := (79, _, _, _)) hf283_78 rfl rfl rfl rfl ?_
    refine hq_F.st (s' := (80, _, _, _)) hf283_79 rfl rfl rfl (hs_iln gi) ?_
    refine hq_F.st (s' := (81, _, _, _)) hf283_80 rfl rfl rfl rfl ?_
    refine hq_F.st (s' := (82, _, _, _)) hf283_81 rfl rfl rfl (sy_la hC sh_77 (n := 27 * kk + i) (by rw [hn_27]; exact hn_t (by omega)) (by omega)) ?_
    refine sy_lsv hf283_82 hC sh_66 (n := i) ti (by omega) (fun w1 hC1 hw1 => ?_)
    refine hq_F.st (s' := (86, _, _, _)) hf283_83 rfl rfl rfl (hs_inc gi (by decide)) ?_
    refine hq_F.st (s' := (60, _, _, _)) hf283_86 rfl rfl rfl rfl ?_
    refine ih (i + 1) (by omega) hC1 (hF.tr (hq_fr1 hw1 (by omega))) (fun j hj => ?_) (hg_nr g0 (by decide)) (hg_ne g1 (by decide)) (by rw [← hn_s]; exact (pi_get_set _ _ _))
    rw [wpl hw1]
    by_cases e : j = i
    · subst e
      rw [if_pos ⟨rfl, rfl⟩]
      exact gl_eq (hq_cell hF (hq_c1 (by decide)))
    · rw [if_neg (fun q => e (by omega))]
      exact hj2 j (by omega)
theorem ml_nam {d : Nat} {w0 : pi_W} {Q : Option Value → pi_W → Prop} (hQ : ∀ (w : pi_W) (lv : pi_L), af_Conf aw_Sh w → af_Fr [(66, 0, 27)] w0 w → (∀ j, j < 27 → gl w 66 (j) = gl w0 66 (27 + j)) → pi_get lv 0 = some (.ref 61) → hq_F d hm192 Q (156, lv, [], w)) : ∀ (n i : Nat) {w : pi_W} {lv : pi_L}, i + n = 27 → af_Conf aw_Sh w → af_Fr [(66, 0, 27)] w0 w → (∀ j, j < i → gl w 66 (j) = gl w0 66 (27 + j)) → pi_get lv 0 = some (.ref 61) → pi_get lv 1 = some (.int (Int32.ofNat i)) → hq_F d hm192 Q (129, lv, [], w) := by
  intro n
  induction n with
  | zero =>
    intro i w lv hi hC hF hj2 g0 gi
    have ti : (Int32.ofNat i).toInt = (i : Int) := hn_t (by omega)
    have kc0 : (((Int8.ofInt 27).toInt32)).toInt = 27 := by decide
    have kz := sy_z0
    refine hq_F.st (s' := (130, _, _, _)) hf192_129 rfl rfl rfl (hs_iln gi) ?_
    refine hq_F.st (s' := (132, _, _, _)) hf192_130 rfl rfl rfl rfl ?_
    refine hq_F.st (s' := (156, _, _, _)) hf192_132 rfl rfl rfl (hs_ic (ci_ge (by omega)) rfl) ?_
    exact hQ w _ hC hF (fun j hj => hj2 j (by omega)) g0
  | succ n ih =>
    intro i w lv hi hC hF hj2 g0 gi
    have ti : (Int32.ofNat i).toInt = (i : Int) := hn_t (by omega)
    have kc0 : (((Int8.ofInt 27).toInt32)).toInt = 27 := by decide
    have kz := sy_z0
    refine hq_F.st (s' := (130, _, _, _)) hf192_129 rfl rfl rfl (hs_iln gi) ?_
    refine hq_F.st (s' := (132, _, _, _)) hf192_130 rfl rfl rfl rfl ?_
    refine hq_F.st (s' := (135, _, _, _)) hf192_132 rfl rfl rfl (hs_icn (t := 156) (ci_gen (by omega)) rfl) ?_
    refine hq_F.st (s' := (136, _, _, _)) hf192_135 rfl rfl rfl (hs_al g0) ?_
    refine hq_F.st (s' := (139, _, _, _)) hf192_136 rfl rfl rfl (hq_gf hC sh_61 sk_11_43 (hq_ref hC sh_61 (b := 66) rfl)) ?_
    refine hq_F.st (s' := (140, _, _, _)) hf192_139 rfl rfl rfl (hs_iln gi) ?_
    refine hq_F.st (s' := (141, _, _, _)) hf192_140 rfl rfl rfl (hs_al g0) ?_
    refine hq_F.st (s' := (144, _, _, _)) hf192_141 rfl rfl rfl (hq_gf hC sh_61 sk_11_43 (hq_ref hC sh_61 (b := 66) rfl)) ?_
    refine hq_F.st (s' := (146, _, _, _)) hf192_144 rfl rfl rfl rfl ?_
    refine hq_F.st (s' := (147, _, _, _)) hf192_146 rfl rfl rfl (hs_iln gi) ?_
    refine hq_F.st (s' := (148, _, _, _)) hf192_147 rfl rfl rfl rfl ?_
    refine hq_F.st (s' := (149, _, _, _)) hf192_148 rfl rfl rfl (sy_la hC sh_66 (n := 27 + i) (by rw [hn_k (n := i) hv_27]; exact hn_t (by omega)) (by omega)) ?_
    refine sy_lsv hf192_149 hC sh_66 (n := i) ti (by omega) (fun w1 hC1 hw1 => ?_)
    refine hq_F.st (s' := (153, _, _, _)) hf192_150 rfl rfl rfl (hs_inc gi (by decide)) ?_
    refine hq_F.st (s' := (129, _, _, _)) hf192_153 rfl rfl rfl rfl ?_
    refine ih (i + 1) (by omega) hC1 (hF.tr (hq_fr1 hw1 (by omega))) (fun j hj => ?_) (hg_nr g0 (by decide)) (by rw [← hn_s]; exact (pi_get_set _ _ _))
    rw [wpl hw1]
    by_cases e : j = i
    · subst e
      rw [if_pos ⟨rfl, rfl⟩]
      exact gl_eq (hF 66 _ (by rw [← Bool.not_eq_true]; intro q; unfold af_cov at q; simp only [List.any_cons, List.any_nil, Bool.or_false, Bool.and_eq_true, beq_iff_eq, Nat.ble_eq, Nat.blt_eq] at q; omega))
    · rw [if_neg (fun q => e (by omega))]
      exact hj2 j (by omega)
theorem mi_78 : ∀ k, k < 2 → af_seg sf_78 k = some (0, 1) := by decide
theorem mi_im {d kk : Nat} {w : pi_W} (hC : af_Conf aw_Sh w) (hk : kk < 2) : hq_F (d + 1) hm282 (fun _ w' => (∀ j, j < 411 → gv w' 76 (411 * kk + j) = gv w 63 j) ∧ (∀ j, j < 27 → gl w' 77 (27 * kk + j) = gl w 66 j) ∧ ∀ c j, (c = 76 ∧ (j < 411 * kk ∨ 411 * kk + 411 ≤ j)) ∨ (c = 77 ∧ (j < 27 * kk ∨ 27 * kk + 27 ≤ j)) → af_wloc w' c j = af_wloc w c j) (0, lv_args 0 [.ref 61, .int (Int32.ofNat kk)], [], w) := by
  have tk : (Int32.ofNat kk).toInt = (kk : Int) := hn_t (by omega)
  have g0 : pi_get (lv_args 0 [.ref 61, .int (Int32.ofNat kk)]) 0 = some (.ref 61) := rfl
  have g1 : pi_get (lv_args 0 [.ref 61, .int (Int32.ofNat kk)]) 1 = some (.int (Int32.ofNat kk)) := rfl
  have kc0 : ((0 : Int32)).toInt = 0 := by decide
  have kc1 : ((1 : Int32)).toInt = 1 := by decide
  have kc2 : ((Int32.ofInt 0)).toInt = 0 := by decide
  have kc3 : ((Int32.ofInt 1)).toInt = 1 := by decide
  have kz := sy_z0
  refine hq_F.st (s' := (1, _, _, _)) hf282_0 rfl rfl rfl (hs_al g0) ?_
  refine hq_F.st (s' := (2, _, _, _)) hf282_1 rfl rfl rfl rfl ?_
  refine sy_pf hf282_2 hC sh_61 sk_11_1 (lo := -2147483648) (hi := 2147483647) rfl (af_i32 _) rfl rfl rfl (fun w21 hC21 hw21 => ?_)
  refine hq_F.st (s' := (6, _, _, _)) hf282_5 rfl rfl rfl (hs_iln g1) ?_
  refine hq_F.st (s' := (7, _, _, _)) hf282_6 rfl rfl rfl rfl ?_
  refine hq_F.st (s' := (8, _, _, _)) hf282_7 rfl rfl rfl rfl ?_
  refine hq_F.call hf282_8 rfl rfl si_11_184 (by decide) (by decide) sz_167 (sy_argsS rfl rfl rfl (Nat.le_of_ble_eq_true rfl) (by decide) rfl (Nat.le_of_ble_eq_true rfl) (by decide)) mt_in (fun _ _ q => by rw [q.1]) ?_
  rintro r8 w21 ⟨rfl, rfl⟩
  try dsimp only
  rw [show decide ((Int32.ofInt 0).toInt ≤ (Int32.ofNat kk).toInt ∧ (Int32.ofNat kk).toInt ≤ (Int32.ofInt 1).toInt) = true from decide_eq_true (by omega), show tq_b true = (1 : Int32) from rfl]
  refine hq_F.st (s' := (16, _, _, _)) hf282_11 rfl rfl rfl (hs_if (ci_ne (by omega)) rfl) ?_
  refine hq_F.st (s' := (17, _, _, _)) hf282_16 rfl rfl rfl rfl ?_
  refine hq_F.st (s' := (18, _, _, _)) hf282_17 rfl rfl rfl rfl ?_
  have Fa := wpF hw21
  refine mi_row (w0 := w21) hk ?_ 411 0 (by omega) hC21 (af_Fr.rf _ _) (fun j hj => by omega) (hg_nr g0 (by decide)) (hg_ne g1 (by decide)) (pi_get_set _ _ _)
  intro w2 lv2 hC2 F2 c2 p0 p1
  refine hq_F.st (s' := (50, _, _, _)) hf282_49 rfl rfl rfl rfl ?_
  refine hq_F.st (s' := (51, _, _, _)) hf282_50 rfl rfl rfl rfl ?_
  refine mi_nam (w0 := w2) hk ?_ 27 0 (by omega) hC2 (af_Fr.rf _ _) (fun j hj => by omega) (hg_nr p0 (by decide)) (hg_ne p1 (by decide)) (pi_get_set _ _ _)
  intro w3 lv3 hC3 F3 c3 q0 q1
  refine hq_F.st (s' := (81, _, _, _)) hf282_80 rfl rfl rfl (hs_al q0) ?_
  refine hq_F.st (s' := (84, _, _, _)) hf282_81 rfl rfl rfl (hq_gf hC3 sh_61 sk_11_81 (hq_ref hC3 sh_61 (b := 78) rfl)) ?_
  refine hq_F.st (s' := (85, _, _, _)) hf282_84 rfl rfl rfl (hs_iln q1) ?_
  refine hq_F.st (s' := (86, _, _, _)) hf282_85 rfl rfl rfl rfl ?_
  refine hq_F.bs hf282_86 hC3 sh_78 (n := kk) tk (by omega) (af_z1 (by decide) (by decide)) (sy_sr (mi_78 _ hk) (by decide) (by decide)) (fun w4 hC4 F4 v4 => ?_)
  refine hq_F.st (s' := (88, _, _, _)) hf282_87 rfl rfl rfl rfl ?_
  refine hq_F.en hf282_88 rfl rfl ?_
  have e4 : ∀ c j, c ≠ 78 → af_wloc w4 c j = af_wloc w3 c j := fun c j hc => hq_one F4 (Or.inl hc)
  refine ⟨fun j hj => ?_, fun j hj => ?_, fun c j hc => ?_⟩
  · rw [gv_eq (e4 76 _ (by decide)), gv_eq (hq_cell F3 (hq_c1 (by decide))), c2 j hj]
    exact gv_eq (hq_cell Fa (by decide))
  · rw [gl_eq (e4 77 _ (by decide)), c3 j hj, gl_eq (hq_cell F2 (hq_c1 (by decide)))]
    exact gl_eq (hq_cell Fa (by decide))
  · refine (e4 c j (by omega)).trans ((F3 c j ?_).trans ((F2 c j ?_).trans (Fa c j ?_)))
    · rw [← Bool.not_eq_true]
      intro q
      unfold af_cov at q
      simp only [List.any_cons, List.any_nil, Bool.or_false, Bool.and_eq_true, beq_iff_eq, Nat.ble_eq, Nat.blt_eq] at q
      omega
    · rw [← Bool.not_eq_true]
      intro q
      unfold af_cov at q
      simp only [List.any_cons, List.any_nil, Bool.or_false, Bool.and_eq_true, beq_iff_eq, Nat.ble_eq, Nat.blt_eq] at q
      omega
    · rw [← Bool.not_eq_true]
      intro q
      unfold af_cov at q
      simp only [List.any_cons, List.any_nil, Bool.or_false, Bool.and_eq_true, beq_iff_eq, Nat.ble_eq, Nat.blt_eq] at q
      omega
theorem mr_re {d kk : Nat} {w : pi_W} (hC : af_Conf aw_Sh w) (hk : kk < 2) : hq_F (d + 1) hm283 (fun _ w' => (¬ (gv w 78 kk).toInt = 0 → (∀ j, j < 411 → gv w' 63 j = gv w 76 (411 * kk + j)) ∧ ∀ j, j < 27 → gl w' 66 j = gl w 77 (27 * kk + j)) ∧ ((gv w 78 kk).toInt = 0 → (∀ j, j < 411 → gv w' 63 j = gv w 63 j) ∧ ∀ j, j < 27 → gl w' 66 j = gl w 66 j)) (0, lv_args 0 [.ref 61, .int (Int32.ofNat kk)], [], w) := by
  have tk : (Int32.ofNat kk).toInt = (kk : Int) := hn_t (by omega)
  have g0 : pi_get (lv_args 0 [.ref 61, .int (Int32.ofNat kk)]) 0 = some (.ref 61) := rfl
  have g1 : pi_get (lv_args 0 [.ref 61, .int (Int32.ofNat kk)]) 1 = some (.int (Int32.ofNat kk)) := rfl
  have kc0 : ((0 : Int32)).toInt = 0 := by decide
  have kc1 : ((1 : Int32)).toInt = 1 := by decide
  have kc2 : ((Int32.ofInt 0)).toInt = 0 := by decide
  have kc3 : ((Int32.ofInt 1)).toInt = 1 := by decide
  have kz := sy_z0
  refine hq_F.st (s' := (1, _, _, _)) hf283_0 rfl rfl rfl (hs_al g0) ?_
  refine hq_F.st (s' := (2, _, _, _)) hf283_1 rfl rfl rfl rfl ?_
  refine sy_pf hf283_2 hC sh_61 sk_11_1 (lo := -2147483648) (hi := 2147483647) rfl (af_i32 _) rfl rfl rfl (fun w21 hC21 hw21 => ?_)
  refine hq_F.st (s' := (6, _, _, _)) hf283_5 rfl rfl rfl (hs_iln g1) ?_
  refine hq_F.st (s' := (7, _, _, _)) hf283_6 rfl rfl rfl rfl ?_
  refine hq_F.st (s' := (8, _, _, _)) hf283_7 rfl rfl rfl rfl ?_
  refine hq_F.call hf283_8 rfl rfl si_11_184 (by decide) (by decide) sz_167 (sy_argsS rfl rfl rfl (Nat.le_of_ble_eq_true rfl) (by decide) rfl (Nat.le_of_ble_eq_true rfl) (by decide)) mt_in (fun _ _ q => by rw [q.1]) ?_
  rintro r8 w21 ⟨rfl, rfl⟩
  try dsimp only
  rw [show decide ((Int32.ofInt 0).toInt ≤ (Int32.ofNat kk).toInt ∧ (Int32.ofNat kk).toInt ≤ (Int32.ofInt 1).toInt) = true from decide_eq_true (by omega), show tq_b true = (1 : Int32) from rfl]
  refine hq_F.st (s' := (14, _, _, _)) hf283_11 rfl rfl rfl (hs_ifn (t := 23) (ci_eqn (by omega)) rfl) ?_
  refine hq_F.st (s' := (15, _, _, _)) hf283_14 rfl rfl rfl (hs_al g0) ?_
  refine hq_F.st (s' := (18, _, _, _)) hf283_15 rfl rfl rfl (hq_gf hC21 sh_61 sk_11_81 (hq_ref hC21 sh_61 (b := 78) rfl)) ?_
  refine hq_F.st (s' := (19, _, _, _)) hf283_18 rfl rfl rfl (hs_iln g1) ?_
  refine hq_F.st (s' := (20, _, _, _)) hf283_19 rfl rfl rfl (sy_ba3 hC21 sh_78 (n := kk) tk (by omega)) ?_
  by_cases b20 : ¬ ((gv w21 78 kk)).toInt = 0
  · skip
    refine hq_F.st (s' := (25, _, _, _)) hf283_20 rfl rfl rfl (hs_if (ci_ne (by omega)) rfl) ?_
    refine hq_F.st (s' := (26, _, _, _)) hf283_25 rfl rfl rfl rfl ?_
    refine hq_F.st (s' := (27, _, _, _)) hf283_26 rfl rfl rfl rfl ?_
    have Fa := wpF hw21
    have ek : gv w21 78 kk = gv w 78 kk := by rw [wpv hw21, if_neg (by omega)]
    rw [ek] at b20
    refine mr_row (w0 := w21) hk ?_ 411 0 (by omega) hC21 (af_Fr.rf _ _) (fun j hj => by omega) (hg_nr g0 (by decide)) (hg_ne g1 (by decide)) (pi_get_set _ _ _)
    intro w2 lv2 hC2 F2 c2 p0 p1
    refine hq_F.st (s' := (59, _, _, _)) hf283_58 rfl rfl rfl rfl ?_
    refine hq_F.st (s' := (60, _, _, _)) hf283_59 rfl rfl rfl rfl ?_
    refine mr_nam (w0 := w2) hk ?_ 27 0 (by omega) hC2 (af_Fr.rf _ _) (fun j hj => by omega) (hg_nr p0 (by decide)) (hg_ne p1 (by decide)) (pi_get_set _ _ _)
    intro w3 lv3 hC3 F3 c3 q0 q1
    refine hq_F.st (s' := (90, _, _, _)) hf283_89 rfl rfl rfl (hs_al q0) ?_
    refine hq_F.st (s' := (91, _, _, _)) hf283_90 rfl rfl rfl rfl ?_
    refine sy_pf hf283_91 hC3 sh_61 sk_11_247 (lo := 0) (hi := 8) rfl (by decide) rfl rfl rfl (fun w4 hC4 hw4 => ?_)
    refine hq_F.st (s' := (95, _, _, _)) hf283_94 rfl rfl rfl rfl ?_
    refine hq_F.en hf283_95 rfl rfl ?_
    refine ⟨fun _ => ⟨fun j hj => ?_, fun j hj => ?_⟩, fun q => absurd q (by omega)⟩
    · rw [wpv hw4, if_neg (by omega), gv_eq (hq_cell F3 (by decide)), c2 j hj]
      exact gv_eq (hq_cell Fa (by decide))
    · rw [wpvl hw4, if_neg (by omega), c3 j hj, gl_eq (hq_cell F2 (by decide))]
      exact gl_eq (hq_cell Fa (by decide))
  · skip
    refine hq_F.st (s' := (23, _, _, _)) hf283_20 rfl rfl rfl (hs_ifn (t := 25) (ci_nen (by omega)) rfl) ?_
    refine hq_F.st (s' := (24, _, _, _)) hf283_23 rfl rfl rfl rfl ?_
    refine hq_F.en hf283_24 rfl rfl ?_
    have ek : gv w21 78 kk = gv w 78 kk := by rw [wpv hw21, if_neg (by omega)]
    rw [ek] at b20
    exact ⟨fun q => absurd q (by omega), fun _ => ⟨fun j hj => by rw [wpv hw21, if_neg (by omega)], fun j hj => by rw [wpvl hw21, if_neg (by omega)]⟩⟩
theorem mi_imN {d : Nat} {w : pi_W} {x : Int32} (hC : af_Conf aw_Sh w) (h0 : ¬ x.toInt = 0) (h1 : ¬ x.toInt = 1) : hq_F (d + 1) hm282 (fun _ w' => af_Fr [(61, 0, 0 + 1)] w w') (0, lv_args 0 [.ref 61, .int x], [], w) := by
  have g0 : pi_get (lv_args 0 [.ref 61, .int x]) 0 = some (.ref 61) := rfl
  have g1 : pi_get (lv_args 0 [.ref 61, .int x]) 1 = some (.int x) := rfl
  have kc0 : ((0 : Int32)).toInt = 0 := by decide
  have kc1 : ((1 : Int32)).toInt = 1 := by decide
  have kc2 : ((Int32.ofInt 0)).toInt = 0 := by decide
  have kc3 : ((Int32.ofInt 1)).toInt = 1 := by decide
  have kz := sy_z0
  refine hq_F.st (s' := (1, _, _, _)) hf282_0 rfl rfl rfl (hs_al g0) ?_
  refine hq_F.st (s' := (2, _, _, _)) hf282_1 rfl rfl rfl rfl ?_
  refine sy_pf hf282_2 hC sh_61 sk_11_1 (lo := -2147483648) (hi := 2147483647) rfl (af_i32 _) rfl rfl rfl (fun w21 hC21 hw21 => ?_)
  refine hq_F.st (s' := (6, _, _, _)) hf282_5 rfl rfl rfl (hs_iln g1) ?_
  refine hq_F.st (s' := (7, _, _, _)) hf282_6 rfl rfl rfl rfl ?_
  refine hq_F.st (s' := (8, _, _, _)) hf282_7 rfl rfl rfl rfl ?_
  refine hq_F.call hf282_8 rfl rfl si_11_184 (by decide) (by decide) sz_167 (sy_argsS rfl rfl rfl (Nat.le_of_ble_eq_true rfl) (by decide) rfl (Nat.le_of_ble_eq_true rfl) (by decide)) mt_in (fun _ _ q => by rw [q.1]) ?_
  rintro r8 w21 ⟨rfl, rfl⟩
  try dsimp only
  rw [show decide ((Int32.ofInt 0).toInt ≤ x.toInt ∧ x.toInt ≤ (Int32.ofInt 1).toInt) = false from decide_eq_false (by omega), show tq_b false = (0 : Int32) from rfl]
  refine hq_F.st (s' := (14, _, _, _)) hf282_11 rfl rfl rfl (hs_ifn (t := 16) (ci_nen (by omega)) rfl) ?_
  refine hq_F.st (s' := (15, _, _, _)) hf282_14 rfl rfl rfl rfl ?_
  refine hq_F.en hf282_15 rfl rfl ?_
  exact wpF hw21
theorem mr_reN {d : Nat} {w : pi_W} {x : Int32} (hC : af_Conf aw_Sh w) (h0 : ¬ x.toInt = 0) (h1 : ¬ x.toInt = 1) : hq_F (d + 1) hm283 (fun _ w' => af_Fr [(61, 0, 0 + 1)] w w') (0, lv_args 0 [.ref 61, .int x], [], w) := by
  have g0 : pi_get (lv_args 0 [.ref 61, .int x]) 0 = some (.ref 61) := rfl
  have g1 : pi_get (lv_args 0 [.ref 61, .int x]) 1 = some (.int x) := rfl
  have kc0 : ((0 : Int32)).toInt = 0 := by decide
  have kc1 : ((1 : Int32)).toInt = 1 := by decide
  have kc2 : ((Int32.ofInt 0)).toInt = 0 := by decide
  have kc3 : ((Int32.ofInt 1)).toInt = 1 := by decide
  have kz := sy_z0
  refine hq_F.st (s' := (1, _, _, _)) hf283_0 rfl rfl rfl (hs_al g0) ?_
  refine hq_F.st (s' := (2, _, _, _)) hf283_1 rfl rfl rfl rfl ?_
  refine sy_pf hf283_2 hC sh_61 sk_11_1 (lo := -2147483648) (hi := 2147483647) rfl (af_i32 _) rfl rfl rfl (fun w21 hC21 hw21 => ?_)
  refine hq_F.st (s' := (6, _, _, _)) hf283_5 rfl rfl rfl (hs_iln g1) ?_
  refine hq_F.st (s' := (7, _, _, _)) hf283_6 rfl rfl rfl rfl ?_
  refine hq_F.st (s' := (8, _, _, _)) hf283_7 rfl rfl rfl rfl ?_
  refine hq_F.call hf283_8 rfl rfl si_11_184 (by decide) (by decide) sz_167 (sy_argsS rfl rfl rfl (Nat.le_of_ble_eq_true rfl) (by decide) rfl (Nat.le_of_ble_eq_true rfl) (by decide)) mt_in (fun _ _ q => by rw [q.1]) ?_
  rintro r8 w21 ⟨rfl, rfl⟩
  try dsimp only
  rw [show decide ((Int32.ofInt 0).toInt ≤ x.toInt ∧ x.toInt ≤ (Int32.ofInt 1).toInt) = false from decide_eq_false (by omega), show tq_b false = (0 : Int32) from rfl]
  refine hq_F.st (s' := (23, _, _, _)) hf283_11 rfl rfl rfl (hs_if (ci_eq (by omega)) rfl) ?_
  refine hq_F.st (s' := (24, _, _, _)) hf283_23 rfl rfl rfl rfl ?_
  refine hq_F.en hf283_24 rfl rfl ?_
  exact wpF hw21
def ly_G : af_G := ((11, 2, (some .int), mc_192), aw_Sh, [ak_400], 0, [(61, 22, 23), (63, 120, 126), (63, 138, 220)], [], [(158, (1, [(0, .inr (.inl 61)), (1, .inl (0, [0]))], [], [((63, 230), (0, []))], ([(0, 0, 10)], [], [])), [(3, 0, (0, [])), (2147483647, 1, (0, [0])), (0, 0, (0, []))]),
  (191, (1, [(0, .inr (.inl 61)), (1, .inl (0, [0]))], [], [((63, 230), (0, []))], ([(0, 0, 6)], [], [])), [(2, 0, (0, [])), (2147483647, 1, (0, [0])), (0, 0, (0, []))]),
  (227, (1, [(0, .inr (.inl 61)), (1, .inl (0, [0]))], [], [((63, 230), (0, []))], ([(0, 0, 6)], [], [])), [(1, 0, (0, [])), (2147483647, 1, (0, [0])), (0, 0, (0, []))]),
  (253, (1, [(0, .inr (.inl 61)), (1, .inl (0, [0]))], [], [((63, 230), (0, []))], ([(0, 0, 6)], [], [])), [(0, 0, (0, []))])], [(63, 0, 230), (63, 231, 411)], [])
def ly_s : af_S := (0, [(0, .inr (.inl 61))], [], [((63, 230), (0, []))], ([], [], []))
set_option maxRecDepth 1000000 in
theorem ly_r : af_run 26 ly_G none (156, ly_s) = true := by decide +kernel
set_option maxRecDepth 1000000 in
theorem ly_l : (ly_G.2.2.2.2.2.2.1.take 3).all (fun q => af_pos q.2.1.2.2.2.2 q.2.2 && af_run 26 ly_G (some q.2.2) (q.1, q.2.1)) = true := by decide +kernel
theorem ly_w : ax_wf ly_G.2.2.2.1 ly_G.2.2.2.2.2.1 ly_G.2.2.2.2.2.2.1 = true := by decide +kernel
theorem ly_h : ∀ K ∈ ly_G.2.2.1, af_Holds ly_G.2.1 4 K := (af_HC ah_400 (by decide) af_HN)
theorem ml_end2 {d : Nat} {w0 : pi_W} {lv0 : pi_L} {Q : Option Value → pi_W → Prop} (hd : 4 ≤ d) (hC0 : af_Conf aw_Sh w0) (g0 : pi_get lv0 0 = some (.ref 61)) (hQ : ∀ w1 w2 w', af_Conf aw_Sh w' → af_Fr [(63, 0, 411)] w0 w1 → (∀ j, j < 411 → gv w1 63 j = if j < 115 then gv w0 64 j else 0) → af_Fr [(66, 0, 27)] w1 w2 → (∀ j, j < 27 → gl w2 66 j = gl w1 66 (27 + j)) → af_Fr [(61, 22, 23), (63, 120, 126), (63, 138, 220)] w2 w' → Q (some (.int (gv w0 61 19))) w') : hq_F (d + 1) hm192 Q (90, lv0, [], w0) := by
  refine hq_F.st (s' := (91, lv0, [.int (Int32.ofNat 0)], w0)) hf192_90 rfl rfl rfl rfl ?_
  refine hq_F.st (s' := (92, pi_set lv0 1 (.int (Int32.ofNat 0)), [], w0)) hf192_91 rfl rfl rfl rfl ?_
  refine ml_cp (w0 := w0) ?_ 411 0 (by omega) hC0 (af_Fr.rf _ _) (fun j hj => by omega) (hg_nr g0 (by decide)) (pi_get_set _ _ _)
  intro w3 lv3 hC3 hF3 hcp q0
  have h230 : af_wloc w3 63 230 = some (.int 0) := by
    rw [sy_v hC3 (c := 63) (i := 230) (lo := 0) (hi := 45) (by decide) rfl, hcp 230 (by decide), if_neg (by decide)]
  refine hq_F.st (s' := (128, _, _, _)) hf192_127 rfl rfl rfl rfl ?_
  refine hq_F.st (s' := (129, _, _, _)) hf192_128 rfl rfl rfl rfl ?_
  refine ml_nam (w0 := w3) ?_ 27 0 (by omega) hC3 (af_Fr.rf _ _) (fun j hj => by omega) (hg_nr q0 (by decide)) (pi_get_set _ _ _)
  intro w8 lv8 hC8 hF8 hc8 q8
  have h230' : af_wloc w8 63 230 = some (.int 0) := (hq_cell hF8 (by decide)).trans h230
  have hSat3 : af_Sat aw_Sh (fun _ => 0) ly_s (156, lv8, [], w8) := by
    refine ⟨hl_L0 q8, trivial, hC8, ?_, hl_N0⟩
    intro e he
    simp only [ly_s, List.mem_singleton] at he
    subst he
    exact hl_sl (by intro v hv; cases hv) h230' (by decide) rfl
  refine ax_seg (Φ := hq_F _ _ _) (G := ly_G) (d := d) (mi := hm192) (nl := 3) rfl (fun K hK => (ly_h K hK).mono (by omega)) ly_w ly_l ly_r rfl hSat3 (fun s s' h1 h2 => hq_F.to h1 h2) (fun s hfin => hq_fin hfin (fun r w' hC' hF' hP' => ?_)) (fun s' q ρ' hq hpc hS hag hF => ?_)
  · obtain ⟨P, hPm, -⟩ := hP'
    simp [ly_G] at hPm
  · obtain ⟨pc', lv2, st', w2⟩ := s'
    simp only [ly_G, List.drop, List.mem_cons, List.not_mem_nil, or_false] at hq
    subst hq
    dsimp only at hpc hS
    subst hpc
    obtain ⟨hL, hst, hC2, hT, hK⟩ := hS
    replace hC2 : af_Conf aw_Sh w2 := hC2
    dsimp only at hL hst hT hK
    have hstn := af_St.nil hst
    subst hstn
    have p0 := hl_ref hL (i := 0) (k := 61) (by simp)
    have hF : af_Fr [(61, 22, 23), (63, 120, 126), (63, 138, 220)] w8 w2 := hF
    refine hq_F.st (s' := (254, lv2, [.ref 61], w2)) hf192_253 rfl rfl rfl (hs_al p0) ?_
    refine hq_F.st (s' := (257, lv2, [.int (gv w2 61 19)], w2)) hf192_254 rfl rfl rfl (hq_gf hC2 sh_61 sk_11_235 (sy_v hC2 (by decide) rfl)) ?_
    refine hq_F.en hf192_257 rfl (pi_ri _) ?_
    rw [show gv w2 61 19 = gv w0 61 19 from (gv_eq (hF 61 19 (by decide))).trans ((gv_eq (hq_cell hF8 (by decide))).trans (gv_eq (hq_cell hF3 (by decide))))]
    exact hQ w3 w8 w2 hC2 hF3 hcp hF8 hc8 hF
