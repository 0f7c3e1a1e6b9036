/-! ===== sentence of the model; by program ===== -/
theorem si_11_451 : pi_look pi_iT 11 451 = some (2, 277, 0, 1817) := rfl
theorem si_11_454 : pi_look pi_iT 11 454 = some (2, 276, 0, 1821) := rfl

theorem sb_230 : af_seg hq_S63 230 = some (0, 45) := by decide +kernel
theorem sm_w {d B nr : Nat} {tp : Nat → Nat} {A : ld_A} {NT : List nt_E} (ho : nt_ok NT) (hcs : nt_cs NT) {f : Nat} {w : pi_W} {K : List Bool} {n c : Nat} {S : List Nat} {t : tq_T} {lv : pi_L} (hloop : 2 ≤ t.1 → ∀ {w : pi_W} {b : Bool} {K : List Bool} {n c : Nat} {S : List Nat} {t : tq_T} {lv : pi_L}, (2 ≤ t.1 → B + 1 - t.2.2.2.2 ≤ f) → MT tp B 200 w t → SN w (if b = true then 1 else 0) K n c S → gv w 61 40 = tq_b b → gv w 61 15 = 0 → MS w 63 0 66 0 A nr NT → (∀ z, Rc tp B 200 NT (b, K, n, t) z → Rc tp B 200 NT (sn_st0 tp B) z) → pi_get lv 0 = some (.ref 61) → pi_get lv 1 = some (.int (Int32.ofInt 1)) → hq_F (d + 4) sm278 (fun r w' => ∃ z, Rc tp B 200 NT (sn_st0 tp B) z ∧ r = some (.int (sn_val z)) ∧ (gv w' 61 15).toInt = sn_fk z) (48, lv, [], w)) (hf : 2 ≤ t.1 → B + 1 - t.2.2.2.2 ≤ f + 1) (h : MT tp B 200 w t) (hS : SN w 1 K n c S) (hwh : gv w 61 40 = tq_b true) (hz0 : gv w 61 15 = 0) (hM : MS w 63 0 66 0 A nr NT) (hR : ∀ z, Rc tp B 200 NT (true, K, n, t) z → Rc tp B 200 NT (sn_st0 tp B) z) (g0 : pi_get lv 0 = some (.ref 61)) (g1 : pi_get lv 1 = some (.int (Int32.ofInt 1))) : hq_F (d + 4) sm278 (fun r w' => ∃ z, Rc tp B 200 NT (sn_st0 tp B) z ∧ r = some (.int (sn_val z)) ∧ (gv w' 61 15).toInt = sn_fk z) (48, lv, [], w) := by
  obtain ⟨a1, a2, a3, a4, a5, a6, a7, a8, a9⟩ := id hS
  have kc0 : (((Int16.ofInt 230).toInt32)).toInt = 230 := by decide
  have kc1 : (((Int8.ofInt 22).toInt32)).toInt = 22 := by decide
  have kc2 : ((0 : Int32)).toInt = 0 := by decide
  have kc3 : ((1 : Int32)).toInt = 1 := by decide
  have kc4 : ((Int32.ofInt (-1))).toInt = (-1) := by decide
  have kc5 : ((Int32.ofInt 0)).toInt = 0 := by decide
  have kc6 : ((Int32.ofInt 1)).toInt = 1 := by decide
  have kz := sy_z0
  refine hq_F.st (s' := (49, _, _, _)) hj278_48 rfl rfl rfl (hs_iln g1) ?_
  refine hq_F.st (s' := (52, _, _, _)) hj278_49 rfl rfl rfl (hs_ifn (t := 132) (ci_eqn (by omega)) rfl) ?_
  refine hq_F.st (s' := (53, _, _, _)) hj278_52 rfl rfl rfl (hs_al g0) ?_
  refine hq_F.st (s' := (56, _, _, _)) hj278_53 rfl rfl rfl (hq_gf h.1 sh_61 sk_11_442 (sy_v h.1 (by decide) rfl)) ?_
  rw [show gv w 61 40 = (1 : Int32) from hwh]
  refine hq_F.st (s' := (59, _, _, _)) hj278_56 rfl rfl rfl (hs_ifn (t := 101) (ci_eqn (by omega)) rfl) ?_
  refine hq_F.st (s' := (60, _, _, _)) hj278_59 rfl rfl rfl (hs_al g0) ?_
  refine hq_F.st (s' := (63, _, _, _)) hj278_60 rfl rfl rfl (hq_gf h.1 sh_61 sk_11_152 (sy_v h.1 (by decide) rfl)) ?_
  have hm := tq_mk_c h.2.2.2.2.2.2.1 h.2.2.2.2.1.1
  by_cases b63 : ¬ ((gv w 61 11)).toInt = 0
  · skip
    refine hq_F.st (s' := (101, _, _, _)) hj278_63 rfl rfl rfl (hs_if (ci_ne (by omega)) rfl) ?_
    have ht0 : ¬ t.1 = 0 := by omega
    refine hq_F.st (s' := (102, _, _, _)) hj278_101 rfl rfl rfl (hs_al g0) ?_
    refine hq_F.st (s' := (105, _, _, _)) hj278_102 rfl rfl rfl (hq_gf h.1 sh_61 sk_11_442 (sy_v h.1 (by decide) rfl)) ?_
    rw [show gv w 61 40 = (1 : Int32) from hwh]
    refine hq_F.st (s' := (108, _, _, _)) hj278_105 rfl rfl rfl (hs_ifn (t := 118) (ci_eqn (by omega)) rfl) ?_
    refine hq_F.st (s' := (109, _, _, _)) hj278_108 rfl rfl rfl (hs_al g0) ?_
    refine hq_F.call hj278_109 rfl rfl si_11_451 (by decide) (by decide) sz_277 (sy_argsV h.1 sh_61 rfl rfl rfl (Nat.le_of_ble_eq_true rfl) rfl (Nat.le_of_ble_eq_true rfl) rfl (by decide)) (sm_behind (d := d) h hS (by rw [hwh]) ht0) (fun _ _ q => by rw [q.1.1, h.1.1]) ?_
    rintro r109 w5 ⟨hC5, F5, q⟩
    try dsimp only
    rcases q with ⟨rfl, z5, b', K', n', t', e5, h5, wh5, c5, S5, sn5⟩ | ⟨rfl, k, p, e5, q5⟩
    · skip
      refine hq_F.st (s' := (48, _, _, _)) hj278_112 rfl rfl rfl (hs_if (ci_ne (by omega)) rfl) ?_
      obtain ⟨f2, fe⟩ := sn_fw (NT := NT) (s := (true, K, n, t)) (by rw [sn_s2]; exact e5)
      have hw5 := h5.2.2.2.2.2.1
      exact hloop f2 (by intro q; have r1 := fe q; have r2 := hw5 q; have r3 := hf f2; show B + 1 - t'.2.2.2.2 ≤ f; dsimp only at r1 r3; omega) h5 sn5 wh5 (z5.trans hz0) (hM.fr F5 (by decide) (by decide)) (fun z hz => hR z (Rc.st (by rw [sn_s2]; exact e5) hz)) g0 g1
    · skip
      refine hq_F.st (s' := (115, _, _, _)) hj278_112 rfl rfl rfl (hs_ifn (t := 48) (ci_nen (by omega)) rfl) ?_
      refine hq_F.st (s' := (125, _, _, _)) hj278_115 rfl rfl rfl rfl ?_
      refine hq_F.st (s' := (126, _, _, _)) hj278_125 rfl rfl rfl rfl ?_
      refine hq_F.st (s' := (127, _, _, _)) hj278_126 rfl rfl rfl (hs_al g0) ?_
      refine hq_F.st (s' := (130, _, _, _)) hj278_127 rfl rfl rfl (hq_gf hC5 sh_61 sk_11_172 (sy_v hC5 (by decide) rfl)) ?_
      refine hq_F.st (s' := (131, _, _, _)) hj278_130 rfl rfl rfl rfl ?_
      refine hq_F.en hj278_131 rfl (pi_ri _) ?_
      rw [show gv w5 61 16 = Int32.ofInt (p : Int) from ld_oi q5.2]
      exact ⟨.inl (k, p), hR _ (Rc.bad (by rw [sn_s2]; exact e5)), rfl, q5.1⟩
  · skip
    refine hq_F.st (s' := (66, _, _, _)) hj278_63 rfl rfl rfl (hs_ifn (t := 101) (ci_nen (by omega)) rfl) ?_
    have ht0 : t.1 = 0 := by omega
    refine hq_F.st (s' := (67, _, _, _)) hj278_66 rfl rfl rfl (hs_al g0) ?_
    refine hq_F.call hj278_67 rfl rfl si_11_445 (by decide) (by decide) sz_274 (sy_argsV h.1 sh_61 rfl rfl rfl (Nat.le_of_ble_eq_true rfl) rfl (Nat.le_of_ble_eq_true rfl) rfl (by decide)) (sm_nots (d := d + 2) S h.1 a1 a3 a5 (by rw [a4, a6]) (by omega) (sW_30 a7) rfl) (fun _ _ q => by rw [q.2.1.1, h.1.1]) ?_
    rintro r67 w1 ⟨rfl, hC1, F1, c1, b1, b3, b5, b4, bc⟩
    try dsimp only
    have h1 : MT tp B 200 w1 t := h.fr hC1 F1 rfl
    have eD := sD_F a7
    rw [a6] at eD
    refine hq_F.st (s' := (71, _, _, _)) hj278_70 rfl rfl rfl (hs_al g0) ?_
    refine hq_F.st (s' := (73, _, _, _)) hj278_71 rfl rfl rfl rfl ?_
    refine hq_F.call hj278_73 rfl rfl si_11_448 (by decide) (by decide) sz_273 (sy_argsV hC1 sh_61 rfl rfl rfl (Nat.le_of_ble_eq_true rfl) rfl (Nat.le_of_ble_eq_true rfl) rfl (by decide)) (sm_joins (d := d + 2) (till := 22) (by decide) (sD S) hC1 b1 b3 b5 (by omega) (sW_30 (sD_W a7)) rfl rfl) (fun _ _ q => by rw [q.2.1.1, hC1.1]) ?_
    rintro r73 w2 ⟨rfl, hC2, F2, c2, d1, d3, d5, dc⟩
    try dsimp only
    have h2 : MT tp B 200 w2 t := h1.fr hC2 F2 rfl
    have jF := (sJ2_F (till := 22) (sD S)).trans eD
    refine hq_F.st (s' := (77, _, _, _)) hj278_76 rfl rfl rfl (hs_al g0) ?_
    refine hq_F.st (s' := (80, _, _, _)) hj278_77 rfl rfl rfl (hq_gf hC2 sh_61 sk_11_427 (sy_v hC2 (by decide) rfl)) ?_
    have d38 := d3
    by_cases b80 : ((gv w2 61 38)).toInt ≤ 0
    · skip
      refine hq_F.st (s' := (96, _, _, _)) hj278_80 rfl rfl rfl (hs_if (ci_le (by omega)) rfl) ?_
      refine hq_F.st (s' := (97, _, _, _)) hj278_96 rfl rfl rfl rfl ?_
      refine hq_F.st (s' := (98, _, _, _)) hj278_97 rfl rfl rfl rfl ?_
      refine hq_F.st (s' := (48, _, _, _)) hj278_98 rfl rfl rfl rfl ?_
      refine hq_F.st (s' := (49, _, _, _)) hj278_48 rfl rfl rfl (hs_iln (pi_get_set _ _ _)) ?_
      refine hq_F.st (s' := (132, _, _, _)) hj278_49 rfl rfl rfl (hs_if (ci_eq (by omega)) rfl) ?_
      refine hq_F.st (s' := (133, _, _, _)) hj278_132 rfl rfl rfl (hs_al (hg_nr g0 (by decide))) ?_
      refine hq_F.st (s' := (136, _, _, _)) hj278_133 rfl rfl rfl (hq_gf hC2 sh_61 sk_11_33 (hq_ref hC2 sh_61 (b := 63) rfl)) ?_
      refine hq_F.st (s' := (139, _, _, _)) hj278_136 rfl rfl rfl rfl ?_
      refine hq_F.st (s' := (140, _, _, _)) hj278_139 rfl rfl rfl (hs_al (hg_nr g0 (by decide))) ?_
      refine hq_F.st (s' := (143, _, _, _)) hj278_140 rfl rfl rfl (hq_gf hC2 sh_61 sk_11_424 (sy_v hC2 (by decide) rfl)) ?_
      rw [show gv w2 61 36 = Int32.ofNat c2 from hn_e d1 (by omega)]
      have tc2 : (Int32.ofNat c2).toInt = (c2 : Int) := hn_t (by omega)
      refine sy_isv hj278_143 hC2 hq_s63 (n := 230) (by decide) (by decide) (sy_sr sb_230 (by omega) (by omega)) (fun w6 hC6 hw6 => ?_)
      refine hq_F.st (s' := (145, _, _, _)) hj278_144 rfl rfl rfl rfl ?_
      refine hq_F.st (s' := (146, _, _, _)) hj278_145 rfl rfl rfl rfl ?_
      refine (sm_copy (c := c2) (n := n) (by omega) a9 (3 * c2) 0 (by omega) hC6 (by rw [wpv hw6, if_neg (by decide)]; exact d1) (by rw [wpv hw6, if_neg (by decide), gv_eq (F2 61 37 (by decide)), gv_eq (F1 61 37 (by decide))]; exact a2) (by rw [wpv hw6, if_neg (by decide), gv_eq (F2 61 15 (by decide)), gv_eq (F1 61 15 (by decide))]; exact hz0) (hg_nr (hg_nr g0 (by decide)) (by decide)) (pi_get_set _ _ _)).imp ?_
      rintro r w8 ⟨hr, hz8⟩
      refine ⟨.inr n, hR _ (Rc.end ?_), hr, by show (gv w8 61 15).toInt = 0; rw [hz8]; decide⟩
      rw [sn_s2]; unfold sn_wh; rw [if_pos ht0]; refine if_pos ?_
      rw [← jF, List.eq_nil_of_length_eq_zero (l := (sJ2 22 (sD S))) (by omega)]
      rfl
    · skip
      refine hq_F.st (s' := (83, _, _, _)) hj278_80 rfl rfl rfl (hs_ifn (t := 96) (ci_len (by omega)) rfl) ?_
      refine hq_F.st (s' := (84, _, _, _)) hj278_83 rfl rfl rfl (hs_al g0) ?_
      refine hq_F.st (s' := (85, _, _, _)) hj278_84 rfl rfl rfl rfl ?_
      refine hq_F.call hj278_85 rfl rfl si_11_178 (by decide) (by decide) sz_177 (sy_argsV hC2 sh_61 rfl rfl rfl (Nat.le_of_ble_eq_true rfl) rfl (Nat.le_of_ble_eq_true rfl) rfl (by decide)) (mt_bad h2 ((Int32.ofInt 1))) (fun _ _ q => by rw [q.2.1.1.1, hC2.1]) ?_
      rintro r85 w9 ⟨rfl, k1, k2, k3, k4⟩
      try dsimp only
      refine hq_F.st (s' := (89, _, _, _)) hj278_88 rfl rfl rfl rfl ?_
      refine hq_F.st (s' := (90, _, _, _)) hj278_89 rfl rfl rfl rfl ?_
      refine hq_F.st (s' := (91, _, _, _)) hj278_90 rfl rfl rfl (hs_al g0) ?_
      refine hq_F.st (s' := (94, _, _, _)) hj278_91 rfl rfl rfl (hq_gf k1.1 sh_61 sk_11_172 (sy_v k1.1 (by decide) rfl)) ?_
      refine hq_F.st (s' := (95, _, _, _)) hj278_94 rfl rfl rfl rfl ?_
      refine hq_F.en hj278_95 rfl (pi_ri _) ?_
      rw [show gv w9 61 16 = Int32.ofInt (t.2.1 : Int) from ld_oi k4]
      refine ⟨.inl (1, t.2.1), hR _ (Rc.bad ?_), rfl, by show (gv w9 61 15).toInt = 1; rw [k3]; decide⟩
      rw [sn_s2]; unfold sn_wh; rw [if_pos ht0]; refine if_neg (fun q => ?_)
      rw [← jF] at q
      rcases sJ2_22 (sD_W a7) (sD_h S) with e | ⟨T, e⟩
      · rw [e] at d3; simp only [List.length_nil] at d3; omega
      · rw [e, sF, if_neg (by decide), if_pos rfl] at q; cases q
theorem sm_o {d B nr : Nat} {tp : Nat → Nat} {A : ld_A} {NT : List nt_E} (ho : nt_ok NT) (hcs : nt_cs NT) {f : Nat} {w : pi_W} {K : List Bool} {n c : Nat} {S : List Nat} {t : tq_T} {lv : pi_L} (hloop : 2 ≤ t.1 → ∀ {w : pi_W} {b : Bool} {K : List Bool} {n c : Nat} {S : List Nat} {t : tq_T} {lv : pi_L}, (2 ≤ t.1 → B + 1 - t.2.2.2.2 ≤ f) → MT tp B 200 w t → SN w (if b = true then 1 else 0) K n c S → gv w 61 40 = tq_b b → gv w 61 15 = 0 → MS w 63 0 66 0 A nr NT → (∀ z, Rc tp B 200 NT (b, K, n, t) z → Rc tp B 200 NT (sn_st0 tp B) z) → pi_get lv 0 = some (.ref 61) → pi_get lv 1 = some (.int (Int32.ofInt 1)) → hq_F (d + 4) sm278 (fun r w' => ∃ z, Rc tp B 200 NT (sn_st0 tp B) z ∧ r = some (.int (sn_val z)) ∧ (gv w' 61 15).toInt = sn_fk z) (48, lv, [], w)) (hf : 2 ≤ t.1 → B + 1 - t.2.2.2.2 ≤ f + 1) (h : MT tp B 200 w t) (hS : SN w 0 K n c S) (hwh : gv w 61 40 = tq_b false) (hz0 : gv w 61 15 = 0) (hM : MS w 63 0 66 0 A nr NT) (hR : ∀ z, Rc tp B 200 NT (false, K, n, t) z → Rc tp B 200 NT (sn_st0 tp B) z) (g0 : pi_get lv 0 = some (.ref 61)) (g1 : pi_get lv 1 = some (.int (Int32.ofInt 1))) : hq_F (d + 4) sm278 (fun r w' => ∃ z, Rc tp B 200 NT (sn_st0 tp B) z ∧ r = some (.int (sn_val z)) ∧ (gv w' 61 15).toInt = sn_fk z) (48, lv, [], w) := by
  obtain ⟨a1, a2, a3, a4, a5, a6, a7, a8, a9⟩ := id hS
  have kc0 : ((0 : Int32)).toInt = 0 := by decide
  have kc1 : ((1 : Int32)).toInt = 1 := by decide
  have kc2 : ((Int32.ofInt (-1))).toInt = (-1) := by decide
  have kc3 : ((Int32.ofInt 1)).toInt = 1 := by decide
  have kz := sy_z0
  refine hq_F.st (s' := (49, _, _, _)) hj278_48 rfl rfl rfl (hs_iln g1) ?_
  refine hq_F.st (s' := (52, _, _, _)) hj278_49 rfl rfl rfl (hs_ifn (t := 132) (ci_eqn (by omega)) rfl) ?_
  refine hq_F.st (s' := (53, _, _, _)) hj278_52 rfl rfl rfl (hs_al g0) ?_
  refine hq_F.st (s' := (56, _, _, _)) hj278_53 rfl rfl rfl (hq_gf h.1 sh_61 sk_11_442 (sy_v h.1 (by decide) rfl)) ?_
  rw [show gv w 61 40 = (0 : Int32) from hwh]
  refine hq_F.st (s' := (101, _, _, _)) hj278_56 rfl rfl rfl (hs_if (ci_eq (by omega)) rfl) ?_
  refine hq_F.st (s' := (102, _, _, _)) hj278_101 rfl rfl rfl (hs_al g0) ?_
  refine hq_F.st (s' := (105, _, _, _)) hj278_102 rfl rfl rfl (hq_gf h.1 sh_61 sk_11_442 (sy_v h.1 (by decide) rfl)) ?_
  rw [show gv w 61 40 = (0 : Int32) from hwh]
  refine hq_F.st (s' := (118, _, _, _)) hj278_105 rfl rfl rfl (hs_if (ci_eq (by omega)) rfl) ?_
  refine hq_F.st (s' := (119, _, _, _)) hj278_118 rfl rfl rfl (hs_al g0) ?_
  refine hq_F.call hj278_119 rfl rfl si_11_454 (by decide) (by decide) sz_276 (sy_argsV h.1 sh_61 rfl rfl rfl (Nat.le_of_ble_eq_true rfl) rfl (Nat.le_of_ble_eq_true rfl) rfl (by decide)) (sm_operand (d := d) h hS (by rw [hwh]) hM ho hcs) (fun _ _ q => by rw [q.1.1, h.1.1]) ?_
  rintro r119 w5 ⟨hC5, F5, q⟩
  try dsimp only
  rcases q with ⟨rfl, z5, b', K', n', t', e5, h5, wh5, c5, S5, sn5⟩ | ⟨rfl, k, p, e5, q5⟩
  · skip
    refine hq_F.st (s' := (48, _, _, _)) hj278_122 rfl rfl rfl (hs_if (ci_ne (by omega)) rfl) ?_
    obtain ⟨f2, fe⟩ := sn_fw (NT := NT) (s := (false, K, n, t)) (by rw [sn_s1]; exact e5)
    have hw5 := h5.2.2.2.2.2.1
    exact hloop f2 (by intro q; have r1 := fe q; have r2 := hw5 q; have r3 := hf f2; show B + 1 - t'.2.2.2.2 ≤ f; dsimp only at r1 r3; omega) h5 sn5 wh5 (z5.trans hz0) (hM.fr F5 (by decide) (by decide)) (fun z hz => hR z (Rc.st (by rw [sn_s1]; exact e5) hz)) g0 g1
  · skip
    refine hq_F.st (s' := (125, _, _, _)) hj278_122 rfl rfl rfl (hs_ifn (t := 48) (ci_nen (by omega)) rfl) ?_
    refine hq_F.st (s' := (126, _, _, _)) hj278_125 rfl rfl rfl rfl ?_
    refine hq_F.st (s' := (127, _, _, _)) hj278_126 rfl rfl rfl (hs_al g0) ?_
    refine hq_F.st (s' := (130, _, _, _)) hj278_127 rfl rfl rfl (hq_gf hC5 sh_61 sk_11_172 (sy_v hC5 (by decide) rfl)) ?_
    refine hq_F.st (s' := (131, _, _, _)) hj278_130 rfl rfl rfl rfl ?_
    refine hq_F.en hj278_131 rfl (pi_ri _) ?_
    rw [show gv w5 61 16 = Int32.ofInt (p : Int) from ld_oi q5.2]
    exact ⟨.inl (k, p), hR _ (Rc.bad (by rw [sn_s1]; exact e5)), rfl, q5.1⟩
theorem sm_loop {d B nr : Nat} {tp : Nat → Nat} {A : ld_A} {NT : List nt_E} (ho : nt_ok NT) (hcs : nt_cs NT) : ∀ (f : Nat), ∀ {w : pi_W} {b : Bool} {K : List Bool} {n c : Nat} {S : List Nat} {t : tq_T} {lv : pi_L}, (2 ≤ t.1 → B + 1 - t.2.2.2.2 ≤ f) → MT tp B 200 w t → SN w (if b = true then 1 else 0) K n c S → gv w 61 40 = tq_b b → gv w 61 15 = 0 → MS w 63 0 66 0 A nr NT → (∀ z, Rc tp B 200 NT (b, K, n, t) z → Rc tp B 200 NT (sn_st0 tp B) z) → pi_get lv 0 = some (.ref 61) → pi_get lv 1 = some (.int (Int32.ofInt 1)) → hq_F (d + 4) sm278 (fun r w' => ∃ z, Rc tp B 200 NT (sn_st0 tp B) z ∧ r = some (.int (sn_val z)) ∧ (gv w' 61 15).toInt = sn_fk z) (48, lv, [], w) := by
  intro f
  induction f with
  | zero =>
    intro w b K n c S t lv hf h hS hwh hz0 hM hR g0 g1
    have hl : ¬ 2 ≤ t.1 := fun q => by have r1 := hf q; have r2 := h.2.2.2.2.2.1 q; omega
    cases b with
    | true => exact sm_w ho hcs (f := 0) (fun q => absurd q hl) (fun q => absurd q hl) h hS hwh hz0 hM hR g0 g1
    | false => exact sm_o ho hcs (f := 0) (fun q => absurd q hl) (fun q => absurd q hl) h hS hwh hz0 hM hR g0 g1
  | succ f ih =>
    intro w b K n c S t lv hf h hS hwh hz0 hM hR g0 g1
    cases b with
    | true => exact sm_w ho hcs (f := f) (fun _ => ih) hf h hS hwh hz0 hM hR g0 g1
    | false => exact sm_o ho hcs (f := f) (fun _ => ih) hf h hS hwh hz0 hM hR g0 g1
theorem mx_sent {d B nr : Nat} {tp : Nat → Nat} {A : ld_A} {NT : List nt_E} (ho : nt_ok NT) (hcs : nt_cs NT) {w : pi_W} (hC : af_Conf aw_Sh w) (hB : (gv w 61 2).toInt = (B : Int)) (ht : ∀ n, n < 940 → (tm_b w n).toInt = (tp n : Int)) (hV : tq_Vm w) (hM : MS w 63 0 66 0 A nr NT) : hq_F (d + 4) sm278 (fun r w' => ∃ z, Rc tp B 200 NT (sn_st0 tp B) z ∧ r = some (.int (sn_val z)) ∧ (gv w' 61 15).toInt = sn_fk z) (0, lv_args 0 [.ref 61], [], w) := by
  have hB9 : B ≤ 940 := by
    have := sy_b hC (c := 61) (i := 2) (lo := 0) (hi := 940) (by decide) rfl
    omega
  have g0 : pi_get (lv_args 0 [.ref 61]) 0 = some (.ref 61) := rfl
  have kc0 : (((Int16.ofInt 200).toInt32)).toInt = 200 := by decide
  have kc1 : ((Int32.ofInt 0)).toInt = 0 := by decide
  have kc2 : ((Int32.ofInt 1)).toInt = 1 := by decide
  have kz := sy_z0
  refine hq_F.st (s' := (1, _, _, _)) hj278_0 rfl rfl rfl (hs_al g0) ?_
  refine hq_F.st (s' := (2, _, _, _)) hj278_1 rfl rfl rfl rfl ?_
  refine sy_pf hj278_2 hC sh_61 sk_11_1 (lo := -2147483648) (hi := 2147483647) rfl (af_i32 _) rfl rfl rfl (fun w21 hC21 hw21 => ?_)
  refine hq_F.st (s' := (6, _, _, _)) hj278_5 rfl rfl rfl (hs_al g0) ?_
  refine hq_F.st (s' := (9, _, _, _)) hj278_6 rfl rfl rfl rfl ?_
  refine hq_F.call hj278_9 rfl rfl si_11_232 (by decide) (by decide) sz_166 (sy_argsV hC21 sh_61 rfl rfl rfl (Nat.le_of_ble_eq_true rfl) rfl (Nat.le_of_ble_eq_true rfl) rfl (by decide)) (ml_tk2 hC21 (by decide)) (fun _ _ q => by rw [q.2.1.1, hC21.1]) ?_
  rintro r9 wt ⟨rfl, hCt, Ft, t3, t4, t5⟩
  try dsimp only
  refine hq_F.st (s' := (13, _, _, _)) hj278_12 rfl rfl rfl (hs_al g0) ?_
  refine hq_F.st (s' := (14, _, _, _)) hj278_13 rfl rfl rfl rfl ?_
  refine sy_pf hj278_14 hCt sh_61 sk_11_169 (lo := -2147483648) (hi := 2147483647) rfl (af_i32 _) rfl rfl rfl (fun w22 hC22 hw22 => ?_)
  refine hq_F.st (s' := (18, _, _, _)) hj278_17 rfl rfl rfl (hs_al g0) ?_
  refine hq_F.st (s' := (19, _, _, _)) hj278_18 rfl rfl rfl rfl ?_
  refine sy_pf hj278_19 hC22 sh_61 sk_11_424 (lo := 0) (hi := 45) rfl (by omega) rfl rfl rfl (fun w23 hC23 hw23 => ?_)
  refine hq_F.st (s' := (23, _, _, _)) hj278_22 rfl rfl rfl (hs_al g0) ?_
  refine hq_F.st (s' := (24, _, _, _)) hj278_23 rfl rfl rfl rfl ?_
  refine sy_pf hj278_24 hC23 sh_61 sk_11_439 (lo := 0) (hi := 20) rfl (by omega) rfl rfl rfl (fun w24 hC24 hw24 => ?_)
  refine hq_F.st (s' := (28, _, _, _)) hj278_27 rfl rfl rfl (hs_al g0) ?_
  refine hq_F.st (s' := (29, _, _, _)) hj278_28 rfl rfl rfl rfl ?_
  refine sy_pf hj278_29 hC24 sh_61 sk_11_427 (lo := 0) (hi := 45) rfl (by omega) rfl rfl rfl (fun w25 hC25 hw25 => ?_)
  refine hq_F.st (s' := (33, _, _, _)) hj278_32 rfl rfl rfl (hs_al g0) ?_
  refine hq_F.st (s' := (34, _, _, _)) hj278_33 rfl rfl rfl rfl ?_
  refine sy_pf hj278_34 hC25 sh_61 sk_11_433 (lo := -2147483648) (hi := 2147483647) rfl (af_i32 _) rfl rfl rfl (fun w26 hC26 hw26 => ?_)
  refine hq_F.st (s' := (38, _, _, _)) hj278_37 rfl rfl rfl (hs_al g0) ?_
  refine hq_F.st (s' := (39, _, _, _)) hj278_38 rfl rfl rfl rfl ?_
  refine sy_pf hj278_39 hC26 sh_61 sk_11_442 (lo := 0) (hi := 1) rfl (by omega) (by decide) (by decide) rfl (fun w27 hC27 hw27 => ?_)
  refine hq_F.st (s' := (43, _, _, _)) hj278_42 rfl rfl rfl (hs_al g0) ?_
  have FA : af_Fr [(61, 0, 1), (61, 2, 6), (61, 15, 16), (61, 36, 41)] w w27 := (((wpF hw21).cov (by decide)).tr (((Ft).cov (by decide)).tr (((wpF hw22).cov (by decide)).tr (((wpF hw23).cov (by decide)).tr (((wpF hw24).cov (by decide)).tr (((wpF hw25).cov (by decide)).tr (((wpF hw26).cov (by decide)).tr ((wpF hw27).cov (by decide)))))))))
  have a3 : (gv w27 61 3).toInt = (B : Int) := by rw [wpv hw27, if_neg (by decide), wpv hw26, if_neg (by decide), wpv hw25, if_neg (by decide), wpv hw24, if_neg (by decide), wpv hw23, if_neg (by decide), wpv hw22, if_neg (by decide), t3, wpv hw21, if_neg (by decide)]; exact hB
  have a4 : (gv w27 61 4).toInt = ((0 : Nat) : Int) := by rw [wpv hw27, if_neg (by decide), wpv hw26, if_neg (by decide), wpv hw25, if_neg (by decide), wpv hw24, if_neg (by decide), wpv hw23, if_neg (by decide), wpv hw22, if_neg (by decide)]; exact t4
  have a5 : (gv w27 61 5).toInt = ((200 : Nat) : Int) := by rw [wpv hw27, if_neg (by decide), wpv hw26, if_neg (by decide), wpv hw25, if_neg (by decide), wpv hw24, if_neg (by decide), wpv hw23, if_neg (by decide), wpv hw22, if_neg (by decide)]; exact t5
  have e36 : (gv w27 61 36).toInt = 0 := by rw [wpv hw27, if_neg (by decide), wpv hw26, if_neg (by decide), wpv hw25, if_neg (by decide), wpv hw24, if_neg (by decide), wpv hw23, if_pos ⟨rfl, rfl⟩]; decide
  have e37 : (gv w27 61 37).toInt = 0 := by rw [wpv hw27, if_neg (by decide), wpv hw26, if_neg (by decide), wpv hw25, if_neg (by decide), wpv hw24, if_pos ⟨rfl, rfl⟩]; decide
  have e38 : (gv w27 61 38).toInt = 0 := by rw [wpv hw27, if_neg (by decide), wpv hw26, if_neg (by decide), wpv hw25, if_pos ⟨rfl, rfl⟩]; decide
  have e39 : (gv w27 61 39).toInt = 1 := by rw [wpv hw27, if_neg (by decide), wpv hw26, if_pos ⟨rfl, rfl⟩]; decide
  have e15 : gv w27 61 15 = 0 := by rw [wpv hw27, if_neg (by decide), wpv hw26, if_neg (by decide), wpv hw25, if_neg (by decide), wpv hw24, if_neg (by decide), wpv hw23, if_neg (by decide), wpv hw22, if_pos ⟨rfl, rfl⟩]; rfl
  have e40 : gv w27 61 40 = tq_b false := by rw [wpv hw27, if_pos ⟨rfl, rfl⟩]; rfl
  have hPz : tm_P tp B w27 := ⟨a3, hB9, fun n hn => by unfold tm_b; rw [gv_eq (hq_cell FA (by decide))]; exact ht n hn⟩
  refine hq_F.call hj278_43 rfl rfl si_11_181 (by decide) (by decide) sz_176 (sy_argsV hC27 sh_61 rfl rfl rfl (Nat.le_of_ble_eq_true rfl) rfl (Nat.le_of_ble_eq_true rfl) rfl (by decide)) (tm_176 (d := d + 2) (i := 0) hC27 hPz a5 a4 (by omega)) (fun _ _ q => by rw [q.2.1.1, hC27.1]) ?_
  rintro r43 w6 ⟨rfl, hC6, F6, A6⟩
  try dsimp only
  refine hq_F.st (s' := (47, _, _, _)) hj278_46 rfl rfl rfl rfl ?_
  refine hq_F.st (s' := (48, _, _, _)) hj278_47 rfl rfl rfl rfl ?_
  have hM6 : MT tp B 200 w6 (tq_tok tp B 200 0) := ⟨hC6, hPz.fr F6 (by decide) (by decide), by rw [gv_eq (F6 61 5 (by decide))]; exact a5, fun k hk => by rw [gl_eq (hq_cell F6 (by decide)), gl_eq (hq_cell FA (by decide))]; exact hV k hk, tm_ok (tq_sk_le (Nat.zero_le _)).2 A6, tq_tok_W (Nat.zero_le _)⟩
  exact sm_loop ho hcs (B + 2) (b := false) (K := []) (n := 0) (c := 0) (S := []) (fun _ => by omega) hM6 ⟨by rw [gv_eq (F6 61 36 (by decide))]; exact e36, by rw [gv_eq (F6 61 37 (by decide))]; exact e37, by rw [gv_eq (F6 61 38 (by decide))]; exact e38, by rw [gv_eq (F6 61 39 (by decide))]; exact e39, trivial, rfl, trivial, by decide, by decide⟩ (by rw [gv_eq (F6 61 40 (by decide))]; exact e40) (by rw [gv_eq (F6 61 15 (by decide))]; exact e15) ((hM.fr FA (by decide) (by decide)).fr F6 (by decide) (by decide)) (fun z hz => hz) (hg_nr g0 (by decide)) (pi_get_set _ _ _)
