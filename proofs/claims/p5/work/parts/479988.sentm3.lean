/-! ===== the SENTENCE in the model: leafOf, operand; by program ===== -/
theorem sk_11_439 : pi_look pi_fT 11 439 = some (11, 37, 1284) := rfl
theorem si_11_436 : pi_look pi_iT 11 436 = some (2, 275, 0, 1825) := rfl

theorem sm_leaf {d B M : Nat} {tp : Nat → Nat} {w : pi_W} {t : tq_T} (h : MT tp B M w t) : hq_F (d + 1) sm275 (fun r w' => w' = w ∧ ∃ v : Int32, r = some (.int v) ∧ ((20 ≤ ls_k t ∧ v.toInt = ls_k t - 20) ∨ (ls_k t < 20 ∧ v.toInt = -1))) (0, lv_args 0 [.ref 61], [], w) := by
  have hkr := ls_k_r (t := t)
  have g0 : pi_get (lv_args 0 [.ref 61]) 0 = some (.ref 61) := rfl
  have kc0 : (((Int8.ofInt 6).toInt32)).toInt = 6 := by decide
  have kc1 : (((Int8.ofInt 7).toInt32)).toInt = 7 := by decide
  have kc2 : (((Int8.ofInt 8).toInt32)).toInt = 8 := by decide
  have kc3 : ((0 : Int32)).toInt = 0 := by decide
  have kc4 : ((1 : Int32)).toInt = 1 := by decide
  have kc5 : ((Int32.ofInt (-1))).toInt = (-1) := by decide
  have kc6 : ((Int32.ofInt 0)).toInt = 0 := by decide
  have kc7 : ((Int32.ofInt 1)).toInt = 1 := by decide
  have kc8 : ((Int32.ofInt 2)).toInt = 2 := by decide
  have kc9 : ((Int32.ofInt 3)).toInt = 3 := by decide
  have kc10 : ((Int32.ofInt 4)).toInt = 4 := by decide
  have kc11 : ((Int32.ofInt 5)).toInt = 5 := by decide
  have kz := sy_z0
  refine hq_F.st (s' := (1, _, _, _)) hj275_0 rfl rfl rfl (hs_al g0) ?_
  refine hq_F.st (s' := (4, _, _, _)) hj275_1 rfl rfl rfl rfl ?_
  refine hq_F.call hj275_4 rfl rfl si_11_206 (by decide) (by decide) sz_178 (sy_argsV h.1 sh_61 rfl rfl rfl (Nat.le_of_ble_eq_true rfl) rfl (Nat.le_of_ble_eq_true rfl) rfl (by decide)) (ml_isW (k := 20) h (by decide) kwx_20) (fun _ _ q => by rw [q.1]) ?_
  rintro r4 w ⟨rfl, rfl⟩
  try dsimp only
  by_cases hk20 : ls_k t = ((20 : Nat) : Int)
  · rw [decide_eq_true hk20, show tq_b true = (1 : Int32) from rfl]
    refine hq_F.st (s' := (10, _, _, _)) hj275_7 rfl rfl rfl (hs_ifn (t := 14) (ci_eqn (by omega)) rfl) ?_
    refine hq_F.st (s' := (11, _, _, _)) hj275_10 rfl rfl rfl rfl ?_
    refine hq_F.st (s' := (130, _, _, _)) hj275_11 rfl rfl rfl rfl ?_
    refine hq_F.en hj275_130 rfl rfl ?_
    exact ⟨rfl, _, rfl, by omega⟩
  · rw [decide_eq_false hk20, show tq_b false = (0 : Int32) from rfl]
    refine hq_F.st (s' := (14, _, _, _)) hj275_7 rfl rfl rfl (hs_if (ci_eq (by omega)) rfl) ?_
    refine hq_F.st (s' := (15, _, _, _)) hj275_14 rfl rfl rfl (hs_al g0) ?_
    refine hq_F.st (s' := (18, _, _, _)) hj275_15 rfl rfl rfl rfl ?_
    refine hq_F.call hj275_18 rfl rfl si_11_206 (by decide) (by decide) sz_178 (sy_argsV h.1 sh_61 rfl rfl rfl (Nat.le_of_ble_eq_true rfl) rfl (Nat.le_of_ble_eq_true rfl) rfl (by decide)) (ml_isW (k := 21) h (by decide) kwx_21) (fun _ _ q => by rw [q.1]) ?_
    rintro r18 w ⟨rfl, rfl⟩
    try dsimp only
    by_cases hk21 : ls_k t = ((21 : Nat) : Int)
    · rw [decide_eq_true hk21, show tq_b true = (1 : Int32) from rfl]
      refine hq_F.st (s' := (24, _, _, _)) hj275_21 rfl rfl rfl (hs_ifn (t := 28) (ci_eqn (by omega)) rfl) ?_
      refine hq_F.st (s' := (25, _, _, _)) hj275_24 rfl rfl rfl rfl ?_
      refine hq_F.st (s' := (130, _, _, _)) hj275_25 rfl rfl rfl rfl ?_
      refine hq_F.en hj275_130 rfl rfl ?_
      exact ⟨rfl, _, rfl, by omega⟩
    · rw [decide_eq_false hk21, show tq_b false = (0 : Int32) from rfl]
      refine hq_F.st (s' := (28, _, _, _)) hj275_21 rfl rfl rfl (hs_if (ci_eq (by omega)) rfl) ?_
      refine hq_F.st (s' := (29, _, _, _)) hj275_28 rfl rfl rfl (hs_al g0) ?_
      refine hq_F.st (s' := (32, _, _, _)) hj275_29 rfl rfl rfl rfl ?_
      refine hq_F.call hj275_32 rfl rfl si_11_206 (by decide) (by decide) sz_178 (sy_argsV h.1 sh_61 rfl rfl rfl (Nat.le_of_ble_eq_true rfl) rfl (Nat.le_of_ble_eq_true rfl) rfl (by decide)) (ml_isW (k := 22) h (by decide) kwx_22) (fun _ _ q => by rw [q.1]) ?_
      rintro r32 w ⟨rfl, rfl⟩
      try dsimp only
      by_cases hk22 : ls_k t = ((22 : Nat) : Int)
      · rw [decide_eq_true hk22, show tq_b true = (1 : Int32) from rfl]
        refine hq_F.st (s' := (38, _, _, _)) hj275_35 rfl rfl rfl (hs_ifn (t := 42) (ci_eqn (by omega)) rfl) ?_
        refine hq_F.st (s' := (39, _, _, _)) hj275_38 rfl rfl rfl rfl ?_
        refine hq_F.st (s' := (130, _, _, _)) hj275_39 rfl rfl rfl rfl ?_
        refine hq_F.en hj275_130 rfl rfl ?_
        exact ⟨rfl, _, rfl, by omega⟩
      · rw [decide_eq_false hk22, show tq_b false = (0 : Int32) from rfl]
        refine hq_F.st (s' := (42, _, _, _)) hj275_35 rfl rfl rfl (hs_if (ci_eq (by omega)) rfl) ?_
        refine hq_F.st (s' := (43, _, _, _)) hj275_42 rfl rfl rfl (hs_al g0) ?_
        refine hq_F.st (s' := (46, _, _, _)) hj275_43 rfl rfl rfl rfl ?_
        refine hq_F.call hj275_46 rfl rfl si_11_206 (by decide) (by decide) sz_178 (sy_argsV h.1 sh_61 rfl rfl rfl (Nat.le_of_ble_eq_true rfl) rfl (Nat.le_of_ble_eq_true rfl) rfl (by decide)) (ml_isW (k := 23) h (by decide) kwx_23) (fun _ _ q => by rw [q.1]) ?_
        rintro r46 w ⟨rfl, rfl⟩
        try dsimp only
        by_cases hk23 : ls_k t = ((23 : Nat) : Int)
        · rw [decide_eq_true hk23, show tq_b true = (1 : Int32) from rfl]
          refine hq_F.st (s' := (52, _, _, _)) hj275_49 rfl rfl rfl (hs_ifn (t := 56) (ci_eqn (by omega)) rfl) ?_
          refine hq_F.st (s' := (53, _, _, _)) hj275_52 rfl rfl rfl rfl ?_
          refine hq_F.st (s' := (130, _, _, _)) hj275_53 rfl rfl rfl rfl ?_
          refine hq_F.en hj275_130 rfl rfl ?_
          exact ⟨rfl, _, rfl, by omega⟩
        · rw [decide_eq_false hk23, show tq_b false = (0 : Int32) from rfl]
          refine hq_F.st (s' := (56, _, _, _)) hj275_49 rfl rfl rfl (hs_if (ci_eq (by omega)) rfl) ?_
          refine hq_F.st (s' := (57, _, _, _)) hj275_56 rfl rfl rfl (hs_al g0) ?_
          refine hq_F.st (s' := (60, _, _, _)) hj275_57 rfl rfl rfl rfl ?_
          refine hq_F.call hj275_60 rfl rfl si_11_206 (by decide) (by decide) sz_178 (sy_argsV h.1 sh_61 rfl rfl rfl (Nat.le_of_ble_eq_true rfl) rfl (Nat.le_of_ble_eq_true rfl) rfl (by decide)) (ml_isW (k := 24) h (by decide) kwx_24) (fun _ _ q => by rw [q.1]) ?_
          rintro r60 w ⟨rfl, rfl⟩
          try dsimp only
          by_cases hk24 : ls_k t = ((24 : Nat) : Int)
          · rw [decide_eq_true hk24, show tq_b true = (1 : Int32) from rfl]
            refine hq_F.st (s' := (66, _, _, _)) hj275_63 rfl rfl rfl (hs_ifn (t := 70) (ci_eqn (by omega)) rfl) ?_
            refine hq_F.st (s' := (67, _, _, _)) hj275_66 rfl rfl rfl rfl ?_
            refine hq_F.st (s' := (130, _, _, _)) hj275_67 rfl rfl rfl rfl ?_
            refine hq_F.en hj275_130 rfl rfl ?_
            exact ⟨rfl, _, rfl, by omega⟩
          · rw [decide_eq_false hk24, show tq_b false = (0 : Int32) from rfl]
            refine hq_F.st (s' := (70, _, _, _)) hj275_63 rfl rfl rfl (hs_if (ci_eq (by omega)) rfl) ?_
            refine hq_F.st (s' := (71, _, _, _)) hj275_70 rfl rfl rfl (hs_al g0) ?_
            refine hq_F.st (s' := (74, _, _, _)) hj275_71 rfl rfl rfl rfl ?_
            refine hq_F.call hj275_74 rfl rfl si_11_206 (by decide) (by decide) sz_178 (sy_argsV h.1 sh_61 rfl rfl rfl (Nat.le_of_ble_eq_true rfl) rfl (Nat.le_of_ble_eq_true rfl) rfl (by decide)) (ml_isW (k := 25) h (by decide) kwx_25) (fun _ _ q => by rw [q.1]) ?_
            rintro r74 w ⟨rfl, rfl⟩
            try dsimp only
            by_cases hk25 : ls_k t = ((25 : Nat) : Int)
            · rw [decide_eq_true hk25, show tq_b true = (1 : Int32) from rfl]
              refine hq_F.st (s' := (80, _, _, _)) hj275_77 rfl rfl rfl (hs_ifn (t := 84) (ci_eqn (by omega)) rfl) ?_
              refine hq_F.st (s' := (81, _, _, _)) hj275_80 rfl rfl rfl rfl ?_
              refine hq_F.st (s' := (130, _, _, _)) hj275_81 rfl rfl rfl rfl ?_
              refine hq_F.en hj275_130 rfl rfl ?_
              exact ⟨rfl, _, rfl, by omega⟩
            · rw [decide_eq_false hk25, show tq_b false = (0 : Int32) from rfl]
              refine hq_F.st (s' := (84, _, _, _)) hj275_77 rfl rfl rfl (hs_if (ci_eq (by omega)) rfl) ?_
              refine hq_F.st (s' := (85, _, _, _)) hj275_84 rfl rfl rfl (hs_al g0) ?_
              refine hq_F.st (s' := (88, _, _, _)) hj275_85 rfl rfl rfl rfl ?_
              refine hq_F.call hj275_88 rfl rfl si_11_206 (by decide) (by decide) sz_178 (sy_argsV h.1 sh_61 rfl rfl rfl (Nat.le_of_ble_eq_true rfl) rfl (Nat.le_of_ble_eq_true rfl) rfl (by decide)) (ml_isW (k := 26) h (by decide) kwx_26) (fun _ _ q => by rw [q.1]) ?_
              rintro r88 w ⟨rfl, rfl⟩
              try dsimp only
              by_cases hk26 : ls_k t = ((26 : Nat) : Int)
              · rw [decide_eq_true hk26, show tq_b true = (1 : Int32) from rfl]
                refine hq_F.st (s' := (94, _, _, _)) hj275_91 rfl rfl rfl (hs_ifn (t := 99) (ci_eqn (by omega)) rfl) ?_
                refine hq_F.st (s' := (96, _, _, _)) hj275_94 rfl rfl rfl rfl ?_
                refine hq_F.st (s' := (130, _, _, _)) hj275_96 rfl rfl rfl rfl ?_
                refine hq_F.en hj275_130 rfl rfl ?_
                exact ⟨rfl, _, rfl, by omega⟩
              · rw [decide_eq_false hk26, show tq_b false = (0 : Int32) from rfl]
                refine hq_F.st (s' := (99, _, _, _)) hj275_91 rfl rfl rfl (hs_if (ci_eq (by omega)) rfl) ?_
                refine hq_F.st (s' := (100, _, _, _)) hj275_99 rfl rfl rfl (hs_al g0) ?_
                refine hq_F.st (s' := (103, _, _, _)) hj275_100 rfl rfl rfl rfl ?_
                refine hq_F.call hj275_103 rfl rfl si_11_206 (by decide) (by decide) sz_178 (sy_argsV h.1 sh_61 rfl rfl rfl (Nat.le_of_ble_eq_true rfl) rfl (Nat.le_of_ble_eq_true rfl) rfl (by decide)) (ml_isW (k := 27) h (by decide) kwx_27) (fun _ _ q => by rw [q.1]) ?_
                rintro r103 w ⟨rfl, rfl⟩
                try dsimp only
                by_cases hk27 : ls_k t = ((27 : Nat) : Int)
                · rw [decide_eq_true hk27, show tq_b true = (1 : Int32) from rfl]
                  refine hq_F.st (s' := (109, _, _, _)) hj275_106 rfl rfl rfl (hs_ifn (t := 114) (ci_eqn (by omega)) rfl) ?_
                  refine hq_F.st (s' := (111, _, _, _)) hj275_109 rfl rfl rfl rfl ?_
                  refine hq_F.st (s' := (130, _, _, _)) hj275_111 rfl rfl rfl rfl ?_
                  refine hq_F.en hj275_130 rfl rfl ?_
                  exact ⟨rfl, _, rfl, by omega⟩
                · rw [decide_eq_false hk27, show tq_b false = (0 : Int32) from rfl]
                  refine hq_F.st (s' := (114, _, _, _)) hj275_106 rfl rfl rfl (hs_if (ci_eq (by omega)) rfl) ?_
                  refine hq_F.st (s' := (115, _, _, _)) hj275_114 rfl rfl rfl (hs_al g0) ?_
                  refine hq_F.st (s' := (118, _, _, _)) hj275_115 rfl rfl rfl rfl ?_
                  refine hq_F.call hj275_118 rfl rfl si_11_206 (by decide) (by decide) sz_178 (sy_argsV h.1 sh_61 rfl rfl rfl (Nat.le_of_ble_eq_true rfl) rfl (Nat.le_of_ble_eq_true rfl) rfl (by decide)) (ml_isW (k := 28) h (by decide) kwx_28) (fun _ _ q => by rw [q.1]) ?_
                  rintro r118 w ⟨rfl, rfl⟩
                  try dsimp only
                  by_cases hk28 : ls_k t = ((28 : Nat) : Int)
                  · rw [decide_eq_true hk28, show tq_b true = (1 : Int32) from rfl]
                    refine hq_F.st (s' := (124, _, _, _)) hj275_121 rfl rfl rfl (hs_ifn (t := 129) (ci_eqn (by omega)) rfl) ?_
                    refine hq_F.st (s' := (126, _, _, _)) hj275_124 rfl rfl rfl rfl ?_
                    refine hq_F.st (s' := (130, _, _, _)) hj275_126 rfl rfl rfl rfl ?_
                    refine hq_F.en hj275_130 rfl rfl ?_
                    exact ⟨rfl, _, rfl, by omega⟩
                  · rw [decide_eq_false hk28, show tq_b false = (0 : Int32) from rfl]
                    refine hq_F.st (s' := (129, _, _, _)) hj275_121 rfl rfl rfl (hs_if (ci_eq (by omega)) rfl) ?_
                    refine hq_F.st (s' := (130, _, _, _)) hj275_129 rfl rfl rfl rfl ?_
                    refine hq_F.en hj275_130 rfl rfl ?_
                    exact ⟨rfl, _, rfl, by omega⟩
theorem sm_operand {d B n c nr : Nat} {tp : Nat → Nat} {K : List Bool} {S : List Nat} {A : ld_A} {NT : List nt_E} {w : pi_W} {t : tq_T} (h : MT tp B 200 w t) (hS : SN w 0 K n c S) (hwh : gv w 61 40 = tq_b false) (hM : MS w 63 0 66 0 A nr NT) (ho : nt_ok NT) (hcs : nt_cs NT) : hq_F (d + 3) sm276 (so_P tp B (sn_one tp B 200 NT K n t) w) (0, lv_args 0 [.ref 61], [], w) := by
  obtain ⟨a1, a2, a3, a4, a5, a6, a7, a8, a9⟩ := hS
  obtain ⟨m0, m2, m3, m4⟩ := hcs
  have hkr := ls_k_r (t := t)
  have hKl : K.length ≤ S.length := by rw [← a6]; exact sF_len S
  have g0 : pi_get (lv_args 0 [.ref 61]) 0 = some (.ref 61) := rfl
  have kc0 : (((Int8.ofInt 10).toInt32)).toInt = 10 := by decide
  have kc1 : (((Int8.ofInt 15).toInt32)).toInt = 15 := by decide
  have kc2 : (((Int8.ofInt 20).toInt32)).toInt = 20 := by decide
  have kc3 : (((Int8.ofInt 23).toInt32)).toInt = 23 := by decide
  have kc4 : (((Int8.ofInt 40).toInt32)).toInt = 40 := by decide
  have kc5 : (((Int8.ofInt 60).toInt32)).toInt = 60 := by decide
  have kc6 : (((Int8.ofInt 62).toInt32)).toInt = 62 := by decide
  have kc7 : (((Int8.ofInt 8).toInt32)).toInt = 8 := by decide
  have kc8 : ((0 : Int32)).toInt = 0 := by decide
  have kc9 : ((1 : Int32)).toInt = 1 := by decide
  have kc10 : ((Int32.ofInt 0)).toInt = 0 := by decide
  have kc11 : ((Int32.ofInt 1)).toInt = 1 := by decide
  have kc12 : ((Int32.ofInt 2)).toInt = 2 := by decide
  have kc13 : ((Int32.ofInt 3)).toInt = 3 := by decide
  have kc14 : ((Int32.ofInt 4)).toInt = 4 := by decide
  have kc15 : ((Int32.ofInt 5)).toInt = 5 := by decide
  have kz := sy_z0
  refine hq_F.st (s' := (1, _, _, _)) hj276_0 rfl rfl rfl (hs_al g0) ?_
  refine hq_F.st (s' := (4, _, _, _)) hj276_1 rfl rfl rfl rfl ?_
  refine hq_F.call hj276_4 rfl rfl si_11_206 (by decide) (by decide) sz_178 (sy_argsV h.1 sh_61 rfl rfl rfl (Nat.le_of_ble_eq_true rfl) rfl (Nat.le_of_ble_eq_true rfl) rfl (by decide)) (ml_isW (k := 19) h (by decide) kwx_19) (fun _ _ q => by rw [q.1]) ?_
  rintro r4 w ⟨rfl, rfl⟩
  try dsimp only
  by_cases hk19 : ls_k t = ((19 : Nat) : Int)
  · rw [decide_eq_true hk19, show tq_b true = (1 : Int32) from rfl]
    refine hq_F.st (s' := (8, _, _, _)) hj276_7 rfl rfl rfl rfl ?_
    refine hq_F.st (s' := (9, _, _, _)) hj276_8 rfl rfl rfl (hs_al (hg_nr g0 (by decide))) ?_
    refine hq_F.st (s' := (11, _, _, _)) hj276_9 rfl rfl rfl rfl ?_
    refine hq_F.call hj276_11 rfl rfl si_11_175 (by decide) (by decide) sz_179 (sy_argsV h.1 sh_61 rfl rfl rfl (Nat.le_of_ble_eq_true rfl) rfl (Nat.le_of_ble_eq_true rfl) rfl (by decide)) (mt_isS (c := 40) h (by decide)) (fun _ _ q => by rw [q.1]) ?_
    rintro r11 w ⟨rfl, rfl⟩
    try dsimp only
    rw [show decide (t.1 = 4 ∧ t.2.2.1 = 40) = sn_op t from rfl]
    cases hop : sn_op t
    · rw [show tq_b false = (0 : Int32) from rfl]
      refine hq_F.st (s' := (15, _, _, _)) hj276_14 rfl rfl rfl rfl ?_
      refine hq_F.st (s' := (16, _, _, _)) hj276_15 rfl rfl rfl (hs_al (hg_nr (hg_nr g0 (by decide)) (by decide))) ?_
      refine hq_F.call hj276_16 rfl rfl si_11_436 (by decide) (by decide) sz_275 (sy_argsV h.1 sh_61 rfl rfl rfl (Nat.le_of_ble_eq_true rfl) rfl (Nat.le_of_ble_eq_true rfl) rfl (by decide)) (sm_leaf (d := d + 1) h) (fun _ _ q => by rw [q.1]) ?_
      rintro r16 w ⟨rfl, v, rfl, hv⟩
      try dsimp only
      refine hq_F.st (s' := (20, _, _, _)) hj276_19 rfl rfl rfl rfl ?_
      refine hq_F.st (s' := (21, _, _, _)) hj276_20 rfl rfl rfl (hs_iln (hg_ne (hg_ne (pi_get_set _ _ _) (by decide)) (by decide))) ?_
      refine hq_F.st (s' := (38, _, _, _)) hj276_21 rfl rfl rfl (hs_if (ci_ne (by omega)) rfl) ?_
      refine hq_F.st (s' := (39, _, _, _)) hj276_38 rfl rfl rfl (hs_al (hg_nr (hg_nr (hg_nr g0 (by decide)) (by decide)) (by decide))) ?_
      refine hq_F.st (s' := (42, _, _, _)) hj276_39 rfl rfl rfl (hq_gf h.1 sh_61 sk_11_439 (sy_v h.1 (by decide) rfl)) ?_
      refine hq_F.st (s' := (44, _, _, _)) hj276_42 rfl rfl rfl rfl ?_
      have o20 := a2
      by_cases b44 : ((gv w 61 37)).toInt = 20
      · skip
        refine hq_F.st (s' := (56, _, _, _)) hj276_44 rfl rfl rfl (hs_ic (ci_eq (by omega)) rfl) ?_
        refine hq_F.st (s' := (57, _, _, _)) hj276_56 rfl rfl rfl (hs_al (hg_nr (hg_nr (hg_nr g0 (by decide)) (by decide)) (by decide))) ?_
        refine hq_F.st (s' := (58, _, _, _)) hj276_57 rfl rfl rfl rfl ?_
        refine hq_F.call hj276_58 rfl rfl si_11_178 (by decide) (by decide) sz_177 (sy_argsV h.1 sh_61 rfl rfl rfl (Nat.le_of_ble_eq_true rfl) rfl (Nat.le_of_ble_eq_true rfl) rfl (by decide)) (mt_bad h ((Int32.ofInt 4))) (fun _ _ q => by rw [q.2.1.1.1, h.1.1]) ?_
        rintro r58 w9 ⟨rfl, k1, k2, k3, k4⟩
        try dsimp only
        refine hq_F.en hj276_61 rfl rfl ?_
        exact ⟨k1.1, k2.cov (by decide), Or.inr ⟨rfl, 4, t.2.1, by unfold sn_one; rw [if_neg (by intro q; omega)]; exact if_pos (by omega), by rw [k3]; decide, k4⟩⟩
      · skip
        refine hq_F.st (s' := (47, _, _, _)) hj276_44 rfl rfl rfl (hs_icn (t := 56) (ci_eqn (by omega)) rfl) ?_
        refine hq_F.st (s' := (48, _, _, _)) hj276_47 rfl rfl rfl (hs_al (hg_nr (hg_nr (hg_nr g0 (by decide)) (by decide)) (by decide))) ?_
        refine hq_F.st (s' := (51, _, _, _)) hj276_48 rfl rfl rfl (hq_gf h.1 sh_61 sk_11_433 (sy_v h.1 (by decide) rfl)) ?_
        refine hq_F.st (s' := (53, _, _, _)) hj276_51 rfl rfl rfl rfl ?_
        have d8 := a4
        by_cases b53 : ((gv w 61 39)).toInt ≤ 8
        · skip
          refine hq_F.st (s' := (62, _, _, _)) hj276_53 rfl rfl rfl (hs_ic (ci_le (by omega)) rfl) ?_
          refine hq_F.st (s' := (63, _, _, _)) hj276_62 rfl rfl rfl (hs_al (hg_nr (hg_nr (hg_nr g0 (by decide)) (by decide)) (by decide))) ?_
          refine hq_F.st (s' := (64, _, _, _)) hj276_63 rfl rfl rfl rfl ?_
          refine hq_F.st (s' := (67, _, _, _)) hj276_64 rfl rfl rfl (hq_gf h.1 sh_61 sk_11_439 (sy_v h.1 (by decide) rfl)) ?_
          rw [show gv w 61 37 = Int32.ofNat n from hn_e a2 (by omega)]
          refine hq_F.st (s' := (68, _, _, _)) hj276_67 rfl rfl rfl rfl ?_
          refine hq_F.st (s' := (69, _, _, _)) hj276_68 rfl rfl rfl rfl ?_
          rw [hn_s]
          have tn1 : (Int32.ofNat (n + 1)).toInt = ((n + 1 : Nat) : Int) := hn_t (by omega)
          refine sy_pf hj276_69 h.1 sh_61 sk_11_439 (lo := 0) (hi := 20) rfl (by omega) rfl rfl rfl (fun w21 hC21 hw21 => ?_)
          have h2t : 2 ≤ t.1 := by rw [ls_k2 (t := t) (by omega)]; omega
          refine hq_F.st (s' := (73, _, _, _)) hj276_72 rfl rfl rfl (hs_al (hg_nr (hg_nr (hg_nr g0 (by decide)) (by decide)) (by decide))) ?_
          refine hq_F.call hj276_73 rfl rfl si_11_181 (by decide) (by decide) sz_176 (sy_argsV hC21 sh_61 rfl rfl rfl (Nat.le_of_ble_eq_true rfl) rfl (Nat.le_of_ble_eq_true rfl) rfl (by decide)) (mt_adv (d := d + 1) (h.fr hC21 (wpF hw21) rfl) h2t) (fun _ _ q => by rw [q.2.1.1.1, hC21.1]) ?_
          rintro r73 w2 ⟨rfl, h2, F2⟩
          try dsimp only
          refine hq_F.st (s' := (77, _, _, _)) hj276_76 rfl rfl rfl (hs_iln (hg_ne (hg_ne (pi_get_set _ _ _) (by decide)) (by decide))) ?_
          refine hq_F.st (s' := (84, _, _, _)) hj276_77 rfl rfl rfl (hs_if (ci_ne (by omega)) rfl) ?_
          refine hq_F.st (s' := (85, _, _, _)) hj276_84 rfl rfl rfl (hs_al (hg_nr (hg_nr (hg_nr g0 (by decide)) (by decide)) (by decide))) ?_
          refine hq_F.st (s' := (88, _, _, _)) hj276_85 rfl rfl rfl (hq_gf h2.1 sh_61 sk_11_68 (hq_ref h2.1 sh_61 (b := 74) rfl)) ?_
          refine hq_F.st (s' := (89, _, _, _)) hj276_88 rfl rfl rfl (hs_al (hg_nr (hg_nr (hg_nr g0 (by decide)) (by decide)) (by decide))) ?_
          refine hq_F.st (s' := (92, _, _, _)) hj276_89 rfl rfl rfl (hq_gf h2.1 sh_61 sk_11_427 (sy_v h2.1 (by decide) rfl)) ?_
          rw [show gv w2 61 38 = Int32.ofNat S.length from by rw [gv_eq (F2 61 38 (by decide)), wpv hw21, if_neg (by decide)]; exact hn_e a3 (by omega)]
          refine hq_F.st (s' := (93, _, _, _)) hj276_92 rfl rfl rfl (hs_iln (hg_ne (hg_ne (pi_get_set _ _ _) (by decide)) (by decide))) ?_
          refine hq_F.st (s' := (96, _, _, _)) hj276_93 rfl rfl rfl (hs_ifn (t := 101) (ci_eqn (by omega)) rfl) ?_
          refine hq_F.st (s' := (98, _, _, _)) hj276_96 rfl rfl rfl rfl ?_
          refine hq_F.st (s' := (103, _, _, _)) hj276_98 rfl rfl rfl rfl ?_
          refine sy_isv hj276_103 h2.1 sh_74 (n := S.length) (hn_t (by omega)) (by omega) (sy_full (sb_74 _ (by omega))) (fun w3 hC3 hw3 => ?_)
          refine hq_F.st (s' := (105, _, _, _)) hj276_104 rfl rfl rfl (hs_al (hg_nr (hg_nr (hg_nr g0 (by decide)) (by decide)) (by decide))) ?_
          refine hq_F.st (s' := (106, _, _, _)) hj276_105 rfl rfl rfl rfl ?_
          refine hq_F.st (s' := (109, _, _, _)) hj276_106 rfl rfl rfl (hq_gf hC3 sh_61 sk_11_427 (sy_v hC3 (by decide) rfl)) ?_
          rw [show gv w3 61 38 = Int32.ofNat S.length from by rw [wpv hw3, if_neg (by omega), gv_eq (F2 61 38 (by decide)), wpv hw21, if_neg (by decide)]; exact hn_e a3 (by omega)]
          refine hq_F.st (s' := (110, _, _, _)) hj276_109 rfl rfl rfl rfl ?_
          refine hq_F.st (s' := (111, _, _, _)) hj276_110 rfl rfl rfl rfl ?_
          rw [hn_s]
          have tl1 : (Int32.ofNat (S.length + 1)).toInt = ((S.length + 1 : Nat) : Int) := hn_t (by omega)
          refine sy_pf hj276_111 hC3 sh_61 sk_11_427 (lo := 0) (hi := 45) rfl (by omega) rfl rfl rfl (fun w23 hC23 hw23 => ?_)
          refine hq_F.st (s' := (115, _, _, _)) hj276_114 rfl rfl rfl (hs_al (hg_nr (hg_nr (hg_nr g0 (by decide)) (by decide)) (by decide))) ?_
          refine hq_F.st (s' := (116, _, _, _)) hj276_115 rfl rfl rfl rfl ?_
          refine hq_F.st (s' := (119, _, _, _)) hj276_116 rfl rfl rfl (hq_gf hC23 sh_61 sk_11_433 (sy_v hC23 (by decide) rfl)) ?_
          have q116 : (gv w23 61 39).toInt = (gv w3 61 39).toInt := by rw [wpv hw23, if_neg (by decide)]
          rw [show gv w23 61 39 = Int32.ofNat (K.length + 1) from by rw [wpv hw23, if_neg (by decide), wpv hw3, if_neg (by omega), gv_eq (F2 61 39 (by decide)), wpv hw21, if_neg (by decide)]; exact hn_e a4 (by omega)]
          refine hq_F.st (s' := (120, _, _, _)) hj276_119 rfl rfl rfl rfl ?_
          refine hq_F.st (s' := (121, _, _, _)) hj276_120 rfl rfl rfl rfl ?_
          rw [hn_s]
          have td1 : (Int32.ofNat (K.length + 1 + 1)).toInt = ((K.length + 1 + 1 : Nat) : Int) := hn_t (by omega)
          refine sy_pf hj276_121 hC23 sh_61 sk_11_433 (lo := -2147483648) (hi := 2147483647) rfl (af_i32 _) rfl rfl rfl (fun w24 hC24 hw24 => ?_)
          refine hq_F.st (s' := (125, _, _, _)) hj276_124 rfl rfl rfl rfl ?_
          refine hq_F.en hj276_125 rfl rfl ?_
          refine ⟨hC24, ((wpF hw21).cov (by decide)).tr ((F2.cov (by decide)).tr (((hq_fr1 (lo := 0) (hi := 45) hw3 (by omega)).cov (by decide)).tr (((wpF hw23).cov (by decide)).tr ((wpF hw24).cov (by decide))))), Or.inl ⟨rfl, by rw [wpv hw24, if_neg (by decide), wpv hw23, if_neg (by decide), wpv hw3, if_neg (by omega), gv_eq (F2 61 15 (by decide)), wpv hw21, if_neg (by decide)], false, false :: K, n + 1, (tq_nx tp B 200 t), ?_, ((h2.fr hC3 (wpF hw3) rfl).fr hC23 (wpF hw23) rfl).fr hC24 (wpF hw24) rfl, ?_, c, 20 :: S, ?_, ?_, ?_, ?_, ?_, ?_, ?_, ?_, by omega⟩⟩
          · unfold sn_one; rw [if_neg (by intro q; omega), if_neg (by omega)]; rw [if_neg (show ¬ sn_op t = true from fun q => absurd (of_decide_eq_true q).1 (by have := ls_k2 (t := t) (by omega); omega))]; exact if_pos hk19
          · rw [wpv hw24, if_neg (by decide), wpv hw23, if_neg (by decide), wpv hw3, if_neg (by omega), gv_eq (F2 61 40 (by decide)), wpv hw21, if_neg (by decide)]; exact hwh
          · rw [wpv hw24, if_neg (by decide), wpv hw23, if_neg (by decide), wpv hw3, if_neg (by omega), gv_eq (F2 61 36 (by decide)), wpv hw21, if_neg (by decide)]; exact a1
          · rw [wpv hw24, if_neg (by decide), wpv hw23, if_neg (by decide), wpv hw3, if_neg (by omega), gv_eq (F2 61 37 (by decide)), wpv hw21, if_pos ⟨rfl, rfl⟩]; exact tn1
          · rw [wpv hw24, if_neg (by decide), wpv hw23, if_pos ⟨rfl, rfl⟩]; exact tl1
          · rw [wpv hw24, if_pos ⟨rfl, rfl⟩]; exact td1
          · have q3 : sK w3 (20 :: S) := ⟨by rw [wpv hw3, if_pos ⟨rfl, rfl⟩]; rfl, ((a5.fr (wpF hw21) (by decide)).fr F2 (by decide)).put hw3 (Nat.le_refl _)⟩
            exact (q3.fr (wpF hw23) (by decide)).fr (wpF hw24) (by decide)
          · rw [sF, if_pos rfl, a6]
          · exact ⟨by decide, fun q => absurd q (by decide), a7⟩
          · show c + (S.length + 1) + 0 ≤ 2 * (n + 1); omega
        · skip
          refine hq_F.st (s' := (56, _, _, _)) hj276_53 rfl rfl rfl (hs_icn (t := 62) (ci_len (by omega)) rfl) ?_
          refine hq_F.st (s' := (57, _, _, _)) hj276_56 rfl rfl rfl (hs_al (hg_nr (hg_nr (hg_nr g0 (by decide)) (by decide)) (by decide))) ?_
          refine hq_F.st (s' := (58, _, _, _)) hj276_57 rfl rfl rfl rfl ?_
          refine hq_F.call hj276_58 rfl rfl si_11_178 (by decide) (by decide) sz_177 (sy_argsV h.1 sh_61 rfl rfl rfl (Nat.le_of_ble_eq_true rfl) rfl (Nat.le_of_ble_eq_true rfl) rfl (by decide)) (mt_bad h ((Int32.ofInt 4))) (fun _ _ q => by rw [q.2.1.1.1, h.1.1]) ?_
          rintro r58 w9 ⟨rfl, k1, k2, k3, k4⟩
          try dsimp only
          refine hq_F.en hj276_61 rfl rfl ?_
          exact ⟨k1.1, k2.cov (by decide), Or.inr ⟨rfl, 4, t.2.1, by unfold sn_one; rw [if_neg (by intro q; omega)]; exact if_pos (by omega), by rw [k3]; decide, k4⟩⟩
    · rw [show tq_b true = (1 : Int32) from rfl]
      refine hq_F.st (s' := (15, _, _, _)) hj276_14 rfl rfl rfl rfl ?_
      refine hq_F.st (s' := (16, _, _, _)) hj276_15 rfl rfl rfl (hs_al (hg_nr (hg_nr g0 (by decide)) (by decide))) ?_
      refine hq_F.call hj276_16 rfl rfl si_11_436 (by decide) (by decide) sz_275 (sy_argsV h.1 sh_61 rfl rfl rfl (Nat.le_of_ble_eq_true rfl) rfl (Nat.le_of_ble_eq_true rfl) rfl (by decide)) (sm_leaf (d := d + 1) h) (fun _ _ q => by rw [q.1]) ?_
      rintro r16 w ⟨rfl, v, rfl, hv⟩
      try dsimp only
      refine hq_F.st (s' := (20, _, _, _)) hj276_19 rfl rfl rfl rfl ?_
      refine hq_F.st (s' := (21, _, _, _)) hj276_20 rfl rfl rfl (hs_iln (hg_ne (hg_ne (pi_get_set _ _ _) (by decide)) (by decide))) ?_
      refine hq_F.st (s' := (38, _, _, _)) hj276_21 rfl rfl rfl (hs_if (ci_ne (by omega)) rfl) ?_
      refine hq_F.st (s' := (39, _, _, _)) hj276_38 rfl rfl rfl (hs_al (hg_nr (hg_nr (hg_nr g0 (by decide)) (by decide)) (by decide))) ?_
      refine hq_F.st (s' := (42, _, _, _)) hj276_39 rfl rfl rfl (hq_gf h.1 sh_61 sk_11_439 (sy_v h.1 (by decide) rfl)) ?_
      refine hq_F.st (s' := (44, _, _, _)) hj276_42 rfl rfl rfl rfl ?_
      have o20 := a2
      by_cases b44 : ((gv w 61 37)).toInt = 20
      · skip
        refine hq_F.st (s' := (56, _, _, _)) hj276_44 rfl rfl rfl (hs_ic (ci_eq (by omega)) rfl) ?_
        refine hq_F.st (s' := (57, _, _, _)) hj276_56 rfl rfl rfl (hs_al (hg_nr (hg_nr (hg_nr g0 (by decide)) (by decide)) (by decide))) ?_
        refine hq_F.st (s' := (58, _, _, _)) hj276_57 rfl rfl rfl rfl ?_
        refine hq_F.call hj276_58 rfl rfl si_11_178 (by decide) (by decide) sz_177 (sy_argsV h.1 sh_61 rfl rfl rfl (Nat.le_of_ble_eq_true rfl) rfl (Nat.le_of_ble_eq_true rfl) rfl (by decide)) (mt_bad h ((Int32.ofInt 4))) (fun _ _ q => by rw [q.2.1.1.1, h.1.1]) ?_
        rintro r58 w9 ⟨rfl, k1, k2, k3, k4⟩
        try dsimp only
        refine hq_F.en hj276_61 rfl rfl ?_
        exact ⟨k1.1, k2.cov (by decide), Or.inr ⟨rfl, 4, t.2.1, by unfold sn_one; rw [if_neg (by intro q; exact absurd q.1 (by rw [hop]; decide))]; exact if_pos (by omega), by rw [k3]; decide, k4⟩⟩
      · skip
        refine hq_F.st (s' := (47, _, _, _)) hj276_44 rfl rfl rfl (hs_icn (t := 56) (ci_eqn (by omega)) rfl) ?_
        refine hq_F.st (s' := (48, _, _, _)) hj276_47 rfl rfl rfl (hs_al (hg_nr (hg_nr (hg_nr g0 (by decide)) (by decide)) (by decide))) ?_
        refine hq_F.st (s' := (51, _, _, _)) hj276_48 rfl rfl rfl (hq_gf h.1 sh_61 sk_11_433 (sy_v h.1 (by decide) rfl)) ?_
        refine hq_F.st (s' := (53, _, _, _)) hj276_51 rfl rfl rfl rfl ?_
        have d8 := a4
        by_cases b53 : ((gv w 61 39)).toInt ≤ 8
        · skip
          refine hq_F.st (s' := (62, _, _, _)) hj276_53 rfl rfl rfl (hs_ic (ci_le (by omega)) rfl) ?_
          refine hq_F.st (s' := (63, _, _, _)) hj276_62 rfl rfl rfl (hs_al (hg_nr (hg_nr (hg_nr g0 (by decide)) (by decide)) (by decide))) ?_
          refine hq_F.st (s' := (64, _, _, _)) hj276_63 rfl rfl rfl rfl ?_
          refine hq_F.st (s' := (67, _, _, _)) hj276_64 rfl rfl rfl (hq_gf h.1 sh_61 sk_11_439 (sy_v h.1 (by decide) rfl)) ?_
          rw [show gv w 61 37 = Int32.ofNat n from hn_e a2 (by omega)]
          refine hq_F.st (s' := (68, _, _, _)) hj276_67 rfl rfl rfl rfl ?_
          refine hq_F.st (s' := (69, _, _, _)) hj276_68 rfl rfl rfl rfl ?_
          rw [hn_s]
          have tn1 : (Int32.ofNat (n + 1)).toInt = ((n + 1 : Nat) : Int) := hn_t (by omega)
          refine sy_pf hj276_69 h.1 sh_61 sk_11_439 (lo := 0) (hi := 20) rfl (by omega) rfl rfl rfl (fun w21 hC21 hw21 => ?_)
          have h2t : 2 ≤ t.1 := by have := of_decide_eq_true hop; omega
          refine hq_F.st (s' := (73, _, _, _)) hj276_72 rfl rfl rfl (hs_al (hg_nr (hg_nr (hg_nr g0 (by decide)) (by decide)) (by decide))) ?_
          refine hq_F.call hj276_73 rfl rfl si_11_181 (by decide) (by decide) sz_176 (sy_argsV hC21 sh_61 rfl rfl rfl (Nat.le_of_ble_eq_true rfl) rfl (Nat.le_of_ble_eq_true rfl) rfl (by decide)) (mt_adv (d := d + 1) (h.fr hC21 (wpF hw21) rfl) h2t) (fun _ _ q => by rw [q.2.1.1.1, hC21.1]) ?_
          rintro r73 w2 ⟨rfl, h2, F2⟩
          try dsimp only
          refine hq_F.st (s' := (77, _, _, _)) hj276_76 rfl rfl rfl (hs_iln (hg_ne (hg_ne (pi_get_set _ _ _) (by decide)) (by decide))) ?_
          refine hq_F.st (s' := (84, _, _, _)) hj276_77 rfl rfl rfl (hs_if (ci_ne (by omega)) rfl) ?_
          refine hq_F.st (s' := (85, _, _, _)) hj276_84 rfl rfl rfl (hs_al (hg_nr (hg_nr (hg_nr g0 (by decide)) (by decide)) (by decide))) ?_
          refine hq_F.st (s' := (88, _, _, _)) hj276_85 rfl rfl rfl (hq_gf h2.1 sh_61 sk_11_68 (hq_ref h2.1 sh_61 (b := 74) rfl)) ?_
          refine hq_F.st (s' := (89, _, _, _)) hj276_88 rfl rfl rfl (hs_al (hg_nr (hg_nr (hg_nr g0 (by decide)) (by decide)) (by decide))) ?_
          refine hq_F.st (s' := (92, _, _, _)) hj276_89 rfl rfl rfl (hq_gf h2.1 sh_61 sk_11_427 (sy_v h2.1 (by decide) rfl)) ?_
          rw [show gv w2 61 38 = Int32.ofNat S.length from by rw [gv_eq (F2 61 38 (by decide)), wpv hw21, if_neg (by decide)]; exact hn_e a3 (by omega)]
          refine hq_F.st (s' := (93, _, _, _)) hj276_92 rfl rfl rfl (hs_iln (hg_ne (hg_ne (pi_get_set _ _ _) (by decide)) (by decide))) ?_
          refine hq_F.st (s' := (96, _, _, _)) hj276_93 rfl rfl rfl (hs_ifn (t := 101) (ci_eqn (by omega)) rfl) ?_
          refine hq_F.st (s' := (98, _, _, _)) hj276_96 rfl rfl rfl rfl ?_
          refine hq_F.st (s' := (103, _, _, _)) hj276_98 rfl rfl rfl rfl ?_
          refine sy_isv hj276_103 h2.1 sh_74 (n := S.length) (hn_t (by omega)) (by omega) (sy_full (sb_74 _ (by omega))) (fun w3 hC3 hw3 => ?_)
          refine hq_F.st (s' := (105, _, _, _)) hj276_104 rfl rfl rfl (hs_al (hg_nr (hg_nr (hg_nr g0 (by decide)) (by decide)) (by decide))) ?_
          refine hq_F.st (s' := (106, _, _, _)) hj276_105 rfl rfl rfl rfl ?_
          refine hq_F.st (s' := (109, _, _, _)) hj276_106 rfl rfl rfl (hq_gf hC3 sh_61 sk_11_427 (sy_v hC3 (by decide) rfl)) ?_
          rw [show gv w3 61 38 = Int32.ofNat S.length from by rw [wpv hw3, if_neg (by omega), gv_eq (F2 61 38 (by decide)), wpv hw21, if_neg (by decide)]; exact hn_e a3 (by omega)]
          refine hq_F.st (s' := (110, _, _, _)) hj276_109 rfl rfl rfl rfl ?_
          refine hq_F.st (s' := (111, _, _, _)) hj276_110 rfl rfl rfl rfl ?_
          rw [hn_s]
          have tl1 : (Int32.ofNat (S.length + 1)).toInt = ((S.length + 1 : Nat) : Int) := hn_t (by omega)
          refine sy_pf hj276_111 hC3 sh_61 sk_11_427 (lo := 0) (hi := 45) rfl (by omega) rfl rfl rfl (fun w23 hC23 hw23 => ?_)
          refine hq_F.st (s' := (115, _, _, _)) hj276_114 rfl rfl rfl (hs_al (hg_nr (hg_nr (hg_nr g0 (by decide)) (by decide)) (by decide))) ?_
          refine hq_F.st (s' := (116, _, _, _)) hj276_115 rfl rfl rfl rfl ?_
          refine hq_F.st (s' := (119, _, _, _)) hj276_116 rfl rfl rfl (hq_gf hC23 sh_61 sk_11_433 (sy_v hC23 (by decide) rfl)) ?_
          have q116 : (gv w23 61 39).toInt = (gv w3 61 39).toInt := by rw [wpv hw23, if_neg (by decide)]
          rw [show gv w23 61 39 = Int32.ofNat (K.length + 1) from by rw [wpv hw23, if_neg (by decide), wpv hw3, if_neg (by omega), gv_eq (F2 61 39 (by decide)), wpv hw21, if_neg (by decide)]; exact hn_e a4 (by omega)]
          refine hq_F.st (s' := (120, _, _, _)) hj276_119 rfl rfl rfl rfl ?_
          refine hq_F.st (s' := (121, _, _, _)) hj276_120 rfl rfl rfl rfl ?_
          rw [hn_s]
          have td1 : (Int32.ofNat (K.length + 1 + 1)).toInt = ((K.length + 1 + 1 : Nat) : Int) := hn_t (by omega)
          refine sy_pf hj276_121 hC23 sh_61 sk_11_433 (lo := -2147483648) (hi := 2147483647) rfl (af_i32 _) rfl rfl rfl (fun w24 hC24 hw24 => ?_)
          refine hq_F.st (s' := (125, _, _, _)) hj276_124 rfl rfl rfl rfl ?_
          refine hq_F.en hj276_125 rfl rfl ?_
          refine ⟨hC24, ((wpF hw21).cov (by decide)).tr ((F2.cov (by decide)).tr (((hq_fr1 (lo := 0) (hi := 45) hw3 (by omega)).cov (by decide)).tr (((wpF hw23).cov (by decide)).tr ((wpF hw24).cov (by decide))))), Or.inl ⟨rfl, by rw [wpv hw24, if_neg (by decide), wpv hw23, if_neg (by decide), wpv hw3, if_neg (by omega), gv_eq (F2 61 15 (by decide)), wpv hw21, if_neg (by decide)], false, false :: K, n + 1, (tq_nx tp B 200 t), ?_, ((h2.fr hC3 (wpF hw3) rfl).fr hC23 (wpF hw23) rfl).fr hC24 (wpF hw24) rfl, ?_, c, 20 :: S, ?_, ?_, ?_, ?_, ?_, ?_, ?_, ?_, by omega⟩⟩
          · unfold sn_one; rw [if_neg (by intro q; exact absurd q.1 (by rw [hop]; decide)), if_neg (by omega)]; rw [if_neg (show ¬ sn_op t = true from fun q => absurd (of_decide_eq_true q).1 (by have := ls_k2 (t := t) (by omega); omega))]; exact if_pos hk19
          · rw [wpv hw24, if_neg (by decide), wpv hw23, if_neg (by decide), wpv hw3, if_neg (by omega), gv_eq (F2 61 40 (by decide)), wpv hw21, if_neg (by decide)]; exact hwh
          · rw [wpv hw24, if_neg (by decide), wpv hw23, if_neg (by decide), wpv hw3, if_neg (by omega), gv_eq (F2 61 36 (by decide)), wpv hw21, if_neg (by decide)]; exact a1
          · rw [wpv hw24, if_neg (by decide), wpv hw23, if_neg (by decide), wpv hw3, if_neg (by omega), gv_eq (F2 61 37 (by decide)), wpv hw21, if_pos ⟨rfl, rfl⟩]; exact tn1
          · rw [wpv hw24, if_neg (by decide), wpv hw23, if_pos ⟨rfl, rfl⟩]; exact tl1
          · rw [wpv hw24, if_pos ⟨rfl, rfl⟩]; exact td1
          · have q3 : sK w3 (20 :: S) := ⟨by rw [wpv hw3, if_pos ⟨rfl, rfl⟩]; rfl, ((a5.fr (wpF hw21) (by decide)).fr F2 (by decide)).put hw3 (Nat.le_refl _)⟩
            exact (q3.fr (wpF hw23) (by decide)).fr (wpF hw24) (by decide)
          · rw [sF, if_pos rfl, a6]
          · exact ⟨by decide, fun q => absurd q (by decide), a7⟩
          · show c + (S.length + 1) + 0 ≤ 2 * (n + 1); omega
        · skip
          refine hq_F.st (s' := (56, _, _, _)) hj276_53 rfl rfl rfl (hs_icn (t := 62) (ci_len (by omega)) rfl) ?_
          refine hq_F.st (s' := (57, _, _, _)) hj276_56 rfl rfl rfl (hs_al (hg_nr (hg_nr (hg_nr g0 (by decide)) (by decide)) (by decide))) ?_
          refine hq_F.st (s' := (58, _, _, _)) hj276_57 rfl rfl rfl rfl ?_
          refine hq_F.call hj276_58 rfl rfl si_11_178 (by decide) (by decide) sz_177 (sy_argsV h.1 sh_61 rfl rfl rfl (Nat.le_of_ble_eq_true rfl) rfl (Nat.le_of_ble_eq_true rfl) rfl (by decide)) (mt_bad h ((Int32.ofInt 4))) (fun _ _ q => by rw [q.2.1.1.1, h.1.1]) ?_
          rintro r58 w9 ⟨rfl, k1, k2, k3, k4⟩
          try dsimp only
          refine hq_F.en hj276_61 rfl rfl ?_
          exact ⟨k1.1, k2.cov (by decide), Or.inr ⟨rfl, 4, t.2.1, by unfold sn_one; rw [if_neg (by intro q; exact absurd q.1 (by rw [hop]; decide))]; exact if_pos (by omega), by rw [k3]; decide, k4⟩⟩
  · rw [decide_eq_false hk19, show tq_b false = (0 : Int32) from rfl]
    refine hq_F.st (s' := (8, _, _, _)) hj276_7 rfl rfl rfl rfl ?_
    refine hq_F.st (s' := (9, _, _, _)) hj276_8 rfl rfl rfl (hs_al (hg_nr g0 (by decide))) ?_
    refine hq_F.st (s' := (11, _, _, _)) hj276_9 rfl rfl rfl rfl ?_
    refine hq_F.call hj276_11 rfl rfl si_11_175 (by decide) (by decide) sz_179 (sy_argsV h.1 sh_61 rfl rfl rfl (Nat.le_of_ble_eq_true rfl) rfl (Nat.le_of_ble_eq_true rfl) rfl (by decide)) (mt_isS (c := 40) h (by decide)) (fun _ _ q => by rw [q.1]) ?_
    rintro r11 w ⟨rfl, rfl⟩
    try dsimp only
    rw [show decide (t.1 = 4 ∧ t.2.2.1 = 40) = sn_op t from rfl]
    cases hop : sn_op t
    · rw [show tq_b false = (0 : Int32) from rfl]
      refine hq_F.st (s' := (15, _, _, _)) hj276_14 rfl rfl rfl rfl ?_
      refine hq_F.st (s' := (16, _, _, _)) hj276_15 rfl rfl rfl (hs_al (hg_nr (hg_nr g0 (by decide)) (by decide))) ?_
      refine hq_F.call hj276_16 rfl rfl si_11_436 (by decide) (by decide) sz_275 (sy_argsV h.1 sh_61 rfl rfl rfl (Nat.le_of_ble_eq_true rfl) rfl (Nat.le_of_ble_eq_true rfl) rfl (by decide)) (sm_leaf (d := d + 1) h) (fun _ _ q => by rw [q.1]) ?_
      rintro r16 w ⟨rfl, v, rfl, hv⟩
      try dsimp only
      refine hq_F.st (s' := (20, _, _, _)) hj276_19 rfl rfl rfl rfl ?_
      refine hq_F.st (s' := (21, _, _, _)) hj276_20 rfl rfl rfl (hs_iln (hg_ne (hg_ne (pi_get_set _ _ _) (by decide)) (by decide))) ?_
      refine hq_F.st (s' := (24, _, _, _)) hj276_21 rfl rfl rfl (hs_ifn (t := 38) (ci_nen (by omega)) rfl) ?_
      refine hq_F.st (s' := (25, _, _, _)) hj276_24 rfl rfl rfl (hs_iln (hg_ne (pi_get_set _ _ _) (by decide))) ?_
      refine hq_F.st (s' := (28, _, _, _)) hj276_25 rfl rfl rfl (hs_ifn (t := 38) (ci_nen (by omega)) rfl) ?_
      refine hq_F.st (s' := (29, _, _, _)) hj276_28 rfl rfl rfl (hs_iln (pi_get_set _ _ _)) ?_
      by_cases b29 : 0 ≤ (v).toInt
      · skip
        refine hq_F.st (s' := (38, _, _, _)) hj276_29 rfl rfl rfl (hs_if (ci_ge (by omega)) rfl) ?_
        refine hq_F.st (s' := (39, _, _, _)) hj276_38 rfl rfl rfl (hs_al (hg_nr (hg_nr (hg_nr g0 (by decide)) (by decide)) (by decide))) ?_
        refine hq_F.st (s' := (42, _, _, _)) hj276_39 rfl rfl rfl (hq_gf h.1 sh_61 sk_11_439 (sy_v h.1 (by decide) rfl)) ?_
        refine hq_F.st (s' := (44, _, _, _)) hj276_42 rfl rfl rfl rfl ?_
        have o20 := a2
        by_cases b44 : ((gv w 61 37)).toInt = 20
        · skip
          refine hq_F.st (s' := (56, _, _, _)) hj276_44 rfl rfl rfl (hs_ic (ci_eq (by omega)) rfl) ?_
          refine hq_F.st (s' := (57, _, _, _)) hj276_56 rfl rfl rfl (hs_al (hg_nr (hg_nr (hg_nr g0 (by decide)) (by decide)) (by decide))) ?_
          refine hq_F.st (s' := (58, _, _, _)) hj276_57 rfl rfl rfl rfl ?_
          refine hq_F.call hj276_58 rfl rfl si_11_178 (by decide) (by decide) sz_177 (sy_argsV h.1 sh_61 rfl rfl rfl (Nat.le_of_ble_eq_true rfl) rfl (Nat.le_of_ble_eq_true rfl) rfl (by decide)) (mt_bad h ((Int32.ofInt 4))) (fun _ _ q => by rw [q.2.1.1.1, h.1.1]) ?_
          rintro r58 w9 ⟨rfl, k1, k2, k3, k4⟩
          try dsimp only
          refine hq_F.en hj276_61 rfl rfl ?_
          exact ⟨k1.1, k2.cov (by decide), Or.inr ⟨rfl, 4, t.2.1, by unfold sn_one; rw [if_neg (by intro q; omega)]; exact if_pos (by omega), by rw [k3]; decide, k4⟩⟩
        · skip
          refine hq_F.st (s' := (47, _, _, _)) hj276_44 rfl rfl rfl (hs_icn (t := 56) (ci_eqn (by omega)) rfl) ?_
          refine hq_F.st (s' := (48, _, _, _)) hj276_47 rfl rfl rfl (hs_al (hg_nr (hg_nr (hg_nr g0 (by decide)) (by decide)) (by decide))) ?_
          refine hq_F.st (s' := (51, _, _, _)) hj276_48 rfl rfl rfl (hq_gf h.1 sh_61 sk_11_433 (sy_v h.1 (by decide) rfl)) ?_
          refine hq_F.st (s' := (53, _, _, _)) hj276_51 rfl rfl rfl rfl ?_
          have d8 := a4
          by_cases b53 : ((gv w 61 39)).toInt ≤ 8
          · skip
            refine hq_F.st (s' := (62, _, _, _)) hj276_53 rfl rfl rfl (hs_ic (ci_le (by omega)) rfl) ?_
            refine hq_F.st (s' := (63, _, _, _)) hj276_62 rfl rfl rfl (hs_al (hg_nr (hg_nr (hg_nr g0 (by decide)) (by decide)) (by decide))) ?_
            refine hq_F.st (s' := (64, _, _, _)) hj276_63 rfl rfl rfl rfl ?_
            refine hq_F.st (s' := (67, _, _, _)) hj276_64 rfl rfl rfl (hq_gf h.1 sh_61 sk_11_439 (sy_v h.1 (by decide) rfl)) ?_
            rw [show gv w 61 37 = Int32.ofNat n from hn_e a2 (by omega)]
            refine hq_F.st (s' := (68, _, _, _)) hj276_67 rfl rfl rfl rfl ?_
            refine hq_F.st (s' := (69, _, _, _)) hj276_68 rfl rfl rfl rfl ?_
            rw [hn_s]
            have tn1 : (Int32.ofNat (n + 1)).toInt = ((n + 1 : Nat) : Int) := hn_t (by omega)
            refine sy_pf hj276_69 h.1 sh_61 sk_11_439 (lo := 0) (hi := 20) rfl (by omega) rfl rfl rfl (fun w21 hC21 hw21 => ?_)
            have h2t : 2 ≤ t.1 := by rw [ls_k2 (t := t) (by omega)]; omega
            refine hq_F.st (s' := (73, _, _, _)) hj276_72 rfl rfl rfl (hs_al (hg_nr (hg_nr (hg_nr g0 (by decide)) (by decide)) (by decide))) ?_
            refine hq_F.call hj276_73 rfl rfl si_11_181 (by decide) (by decide) sz_176 (sy_argsV hC21 sh_61 rfl rfl rfl (Nat.le_of_ble_eq_true rfl) rfl (Nat.le_of_ble_eq_true rfl) rfl (by decide)) (mt_adv (d := d + 1) (h.fr hC21 (wpF hw21) rfl) h2t) (fun _ _ q => by rw [q.2.1.1.1, hC21.1]) ?_
            rintro r73 w2 ⟨rfl, h2, F2⟩
            try dsimp only
            refine hq_F.st (s' := (77, _, _, _)) hj276_76 rfl rfl rfl (hs_iln (hg_ne (hg_ne (pi_get_set _ _ _) (by decide)) (by decide))) ?_
            refine hq_F.st (s' := (80, _, _, _)) hj276_77 rfl rfl rfl (hs_ifn (t := 84) (ci_nen (by omega)) rfl) ?_
            refine hq_F.st (s' := (81, _, _, _)) hj276_80 rfl rfl rfl (hs_iln (hg_ne (pi_get_set _ _ _) (by decide))) ?_
            refine hq_F.st (s' := (126, _, _, _)) hj276_81 rfl rfl rfl (hs_if (ci_eq (by omega)) rfl) ?_
            refine hq_F.st (s' := (127, _, _, _)) hj276_126 rfl rfl rfl (hs_al (hg_nr (hg_nr (hg_nr g0 (by decide)) (by decide)) (by decide))) ?_
            refine hq_F.st (s' := (128, _, _, _)) hj276_127 rfl rfl rfl rfl ?_
            refine sy_pf hj276_128 h2.1 sh_61 sk_11_442 (lo := 0) (hi := 1) rfl (by omega) (by decide) (by decide) rfl (fun w22 hC22 hw22 => ?_)
            have h3 : MT tp B 200 w22 (tq_nx tp B 200 t) := h2.fr hC22 (wpF hw22) rfl
            have cc22 : (gv w22 61 36).toInt = (c : Int) := by rw [wpv hw22, if_neg (by decide), gv_eq (F2 61 36 (by decide)), wpv hw21, if_neg (by decide)]; exact a1
            have FM3 : af_Fr [(61, 4, 5), (61, 11, 15), (61, 17, 18), (61, 37, 38), (61, 40, 41)] w w22 := ((wpF hw21).cov (by decide)).tr ((F2.cov (by decide)).tr ((wpF hw22).cov (by decide)))
            have hN3 : NM w22 0 NT := fun e he => by rw [gl_eq (hq_cell FM3 (by decide)), Nat.add_assoc]; exact hM.1 e he
            have hm3 := tq_mk_c h3.2.2.2.2.2.2.1 h3.2.2.2.2.1.1
            refine hq_F.st (s' := (132, _, _, _)) hj276_131 rfl rfl rfl (hs_iln (pi_get_set _ _ _)) ?_
            refine hq_F.st (s' := (133, _, _, _)) hj276_132 rfl rfl rfl rfl ?_
            by_cases b133 : 2 ≤ (v).toInt
            · skip
              refine hq_F.st (s' := (145, _, _, _)) hj276_133 rfl rfl rfl (hs_ic (ci_ge (by omega)) rfl) ?_
              refine hq_F.st (s' := (146, _, _, _)) hj276_145 rfl rfl rfl (hs_iln (pi_get_set _ _ _)) ?_
              refine hq_F.st (s' := (147, _, _, _)) hj276_146 rfl rfl rfl rfl ?_
              by_cases b147 : 5 ≤ (v).toInt
              · skip
                refine hq_F.st (s' := (241, _, _, _)) hj276_147 rfl rfl rfl (hs_ic (ci_ge (by omega)) rfl) ?_
                refine hq_F.st (s' := (242, _, _, _)) hj276_241 rfl rfl rfl (hs_al (hg_nr (hg_nr (hg_nr g0 (by decide)) (by decide)) (by decide))) ?_
                refine hq_F.st (s' := (245, _, _, _)) hj276_242 rfl rfl rfl (hq_gf hC22 sh_61 sk_11_152 (sy_v hC22 (by decide) rfl)) ?_
                have q242 : (gv w22 61 11).toInt = (gv w2 61 11).toInt := by rw [wpv hw22, if_neg (by decide)]
                refine hq_F.st (s' := (246, _, _, _)) hj276_245 rfl rfl rfl rfl ?_
                by_cases b246 : ¬ ((gv w22 61 11)).toInt = 3
                · skip
                  refine hq_F.st (s' := (267, _, _, _)) hj276_246 rfl rfl rfl (hs_ic (ci_ne (by omega)) rfl) ?_
                  refine hq_F.st (s' := (268, _, _, _)) hj276_267 rfl rfl rfl (hs_al (hg_nr (hg_nr (hg_nr g0 (by decide)) (by decide)) (by decide))) ?_
                  refine hq_F.st (s' := (269, _, _, _)) hj276_268 rfl rfl rfl rfl ?_
                  refine hq_F.call hj276_269 rfl rfl si_11_178 (by decide) (by decide) sz_177 (sy_argsV hC22 sh_61 rfl rfl rfl (Nat.le_of_ble_eq_true rfl) rfl (Nat.le_of_ble_eq_true rfl) rfl (by decide)) (mt_bad h3 ((Int32.ofInt 1))) (fun _ _ q => by rw [q.2.1.1.1, hC22.1]) ?_
                  rintro r269 w9 ⟨rfl, k1, k2, k3, k4⟩
                  try dsimp only
                  refine hq_F.en hj276_272 rfl rfl ?_
                  exact ⟨k1.1, ((wpF hw21).cov (by decide)).tr ((F2.cov (by decide)).tr (((wpF hw22).cov (by decide)).tr (k2.cov (by decide)))), Or.inr ⟨rfl, 1, (tq_nx tp B 200 t).2.1, by unfold sn_one; rw [if_neg (by intro q; omega), if_neg (by omega)]; rw [if_neg (by rw [hop]; decide), if_neg (by omega)]; rw [show sn_leaf tp B 200 NT (ls_k t) (tq_nx tp B 200 t) = .inl (1, (tq_nx tp B 200 t).2.1) from by unfold sn_leaf; rw [if_neg (by omega), if_neg (by omega)]; exact if_neg (by omega)]; rfl, by rw [k3]; decide, k4⟩⟩
                · skip
                  refine hq_F.st (s' := (249, _, _, _)) hj276_246 rfl rfl rfl (hs_icn (t := 267) (ci_nen (by omega)) rfl) ?_
                  refine hq_F.st (s' := (250, _, _, _)) hj276_249 rfl rfl rfl (hs_al (hg_nr (hg_nr (hg_nr g0 (by decide)) (by decide)) (by decide))) ?_
                  refine hq_F.st (s' := (253, _, _, _)) hj276_250 rfl rfl rfl (hq_gf hC22 sh_61 sk_11_162 (sy_v hC22 (by decide) rfl)) ?_
                  have q250 : (gv w22 61 14).toInt = (gv w2 61 14).toInt := by rw [wpv hw22, if_neg (by decide)]
                  refine hq_F.st (s' := (255, _, _, _)) hj276_253 rfl rfl rfl rfl ?_
                  have hn3 := h3.2.2.2.2.1.2.2.1 (by omega)
                  by_cases b255 : ((gv w22 61 14)).toInt < 60
                  · skip
                    refine hq_F.st (s' := (267, _, _, _)) hj276_255 rfl rfl rfl (hs_ic (ci_lt (by omega)) rfl) ?_
                    refine hq_F.st (s' := (268, _, _, _)) hj276_267 rfl rfl rfl (hs_al (hg_nr (hg_nr (hg_nr g0 (by decide)) (by decide)) (by decide))) ?_
                    refine hq_F.st (s' := (269, _, _, _)) hj276_268 rfl rfl rfl rfl ?_
                    refine hq_F.call hj276_269 rfl rfl si_11_178 (by decide) (by decide) sz_177 (sy_argsV hC22 sh_61 rfl rfl rfl (Nat.le_of_ble_eq_true rfl) rfl (Nat.le_of_ble_eq_true rfl) rfl (by decide)) (mt_bad h3 ((Int32.ofInt 1))) (fun _ _ q => by rw [q.2.1.1.1, hC22.1]) ?_
                    rintro r269 w9 ⟨rfl, k1, k2, k3, k4⟩
                    try dsimp only
                    refine hq_F.en hj276_272 rfl rfl ?_
                    exact ⟨k1.1, ((wpF hw21).cov (by decide)).tr ((F2.cov (by decide)).tr (((wpF hw22).cov (by decide)).tr (k2.cov (by decide)))), Or.inr ⟨rfl, 1, (tq_nx tp B 200 t).2.1, by unfold sn_one; rw [if_neg (by intro q; omega), if_neg (by omega)]; rw [if_neg (by rw [hop]; decide), if_neg (by omega)]; rw [show sn_leaf tp B 200 NT (ls_k t) (tq_nx tp B 200 t) = .inl (1, (tq_nx tp B 200 t).2.1) from by unfold sn_leaf; rw [if_neg (by omega), if_neg (by omega)]; exact if_neg (by omega)]; rfl, by rw [k3]; decide, k4⟩⟩
                  · skip
                    refine hq_F.st (s' := (258, _, _, _)) hj276_255 rfl rfl rfl (hs_icn (t := 267) (ci_ltn (by omega)) rfl) ?_
                    refine hq_F.st (s' := (259, _, _, _)) hj276_258 rfl rfl rfl (hs_al (hg_nr (hg_nr (hg_nr g0 (by decide)) (by decide)) (by decide))) ?_
                    refine hq_F.st (s' := (262, _, _, _)) hj276_259 rfl rfl rfl (hq_gf hC22 sh_61 sk_11_162 (sy_v hC22 (by decide) rfl)) ?_
                    have q259 : (gv w22 61 14).toInt = (gv w2 61 14).toInt := by rw [wpv hw22, if_neg (by decide)]
                    refine hq_F.st (s' := (264, _, _, _)) hj276_262 rfl rfl rfl rfl ?_
                    by_cases b264 : ((gv w22 61 14)).toInt ≤ 62
                    · skip
                      refine hq_F.st (s' := (273, _, _, _)) hj276_264 rfl rfl rfl (hs_ic (ci_le (by omega)) rfl) ?_
                      have h4 : (tq_nx tp B 200 t).1 = 4 ∧ 60 ≤ (tq_nx tp B 200 t).2.2.1 ∧ (tq_nx tp B 200 t).2.2.1 ≤ 62 := by omega
                      refine hq_F.st (s' := (274, _, _, _)) hj276_273 rfl rfl rfl (hs_al (hg_nr (hg_nr (hg_nr g0 (by decide)) (by decide)) (by decide))) ?_
                      refine hq_F.st (s' := (277, _, _, _)) hj276_274 rfl rfl rfl (hq_gf hC22 sh_61 sk_11_162 (sy_v hC22 (by decide) rfl)) ?_
                      have q274 : (gv w22 61 14).toInt = (gv w2 61 14).toInt := by rw [wpv hw22, if_neg (by decide)]
                      refine hq_F.st (s' := (279, _, _, _)) hj276_277 rfl rfl rfl (sy_is (by decide)) ?_
                      refine hq_F.st (s' := (280, _, _, _)) hj276_279 rfl rfl rfl (hs_al (hg_nr (hg_nr (hg_nr (hg_nr g0 (by decide)) (by decide)) (by decide)) (by decide))) ?_
                      refine hq_F.call hj276_280 rfl rfl si_11_181 (by decide) (by decide) sz_176 (sy_argsV hC22 sh_61 rfl rfl rfl (Nat.le_of_ble_eq_true rfl) rfl (Nat.le_of_ble_eq_true rfl) rfl (by decide)) (mt_adv (d := d + 1) h3 (by omega)) (fun _ _ q => by rw [q.2.1.1.1, hC22.1]) ?_
                      rintro r280 w5 ⟨rfl, h5, F5⟩
                      try dsimp only
                      refine hq_F.st (s' := (284, _, _, _)) hj276_283 rfl rfl rfl (hs_al (hg_nr (hg_nr (hg_nr (hg_nr g0 (by decide)) (by decide)) (by decide)) (by decide))) ?_
                      refine hq_F.st (s' := (287, _, _, _)) hj276_284 rfl rfl rfl (hq_gf h5.1 sh_61 sk_11_152 (sy_v h5.1 (by decide) rfl)) ?_
                      refine hq_F.st (s' := (288, _, _, _)) hj276_287 rfl rfl rfl rfl ?_
                      have hm5 := tq_mk_c h5.2.2.2.2.2.2.1 h5.2.2.2.2.1.1
                      by_cases b288 : ((gv w5 61 11)).toInt = 2
                      · skip
                        refine hq_F.st (s' := (297, _, _, _)) hj276_288 rfl rfl rfl (hs_ic (ci_eq (by omega)) rfl) ?_
                        refine hq_F.st (s' := (298, _, _, _)) hj276_297 rfl rfl rfl (hs_al (hg_nr (hg_nr (hg_nr (hg_nr g0 (by decide)) (by decide)) (by decide)) (by decide))) ?_
                        refine hq_F.st (s' := (299, _, _, _)) hj276_298 rfl rfl rfl (hs_iln (hg_ne (pi_get_set _ _ _) (by decide))) ?_
                        refine hq_F.st (s' := (301, _, _, _)) hj276_299 rfl rfl rfl (hs_il (pi_get_set _ _ _)) ?_
                        refine hq_F.st (s' := (302, _, _, _)) hj276_301 rfl rfl rfl (hs_al (hg_nr (hg_nr (hg_nr (hg_nr g0 (by decide)) (by decide)) (by decide)) (by decide))) ?_
                        refine hq_F.st (s' := (305, _, _, _)) hj276_302 rfl rfl rfl (hq_gf h5.1 sh_61 sk_11_162 (sy_v h5.1 (by decide) rfl)) ?_
                        refine hq_F.call hj276_305 rfl rfl si_11_430 (by decide) (by decide) sz_272 (sy_argsV h5.1 sh_61 rfl rfl rfl (Nat.le_of_ble_eq_true rfl) rfl (Nat.le_of_ble_eq_true rfl) rfl (by decide)) (sm_code (d := d + 2) (c := c) h5.1 (by rw [gv_eq (F5 61 36 (by decide))]; exact cc22) (by omega)) (fun _ _ q => by rw [q.2.1.1, h5.1.1]) ?_
                        rintro r305 w7 ⟨rfl, hC7, F7, c7⟩
                        try dsimp only
                        have h7 := (h5).fr hC7 F7 rfl
                        refine hq_F.st (s' := (309, _, _, _)) hj276_308 rfl rfl rfl (hs_al (hg_nr (hg_nr (hg_nr (hg_nr g0 (by decide)) (by decide)) (by decide)) (by decide))) ?_
                        refine hq_F.call hj276_309 rfl rfl si_11_181 (by decide) (by decide) sz_176 (sy_argsV hC7 sh_61 rfl rfl rfl (Nat.le_of_ble_eq_true rfl) rfl (Nat.le_of_ble_eq_true rfl) rfl (by decide)) (mt_adv (d := d + 1) h7 (by omega)) (fun _ _ q => by rw [q.2.1.1.1, hC7.1]) ?_
                        rintro r309 w8 ⟨rfl, h8, F8⟩
                        try dsimp only
                        refine hq_F.st (s' := (313, _, _, _)) hj276_312 rfl rfl rfl rfl ?_
                        refine hq_F.en hj276_313 rfl rfl ?_
                        refine ⟨h8.1, ((wpF hw21).cov (by decide)).tr ((F2.cov (by decide)).tr (((wpF hw22).cov (by decide)).tr ((F5.cov (by decide)).tr ((F7.cov (by decide)).tr (F8.cov (by decide)))))), Or.inl ⟨rfl, ?_, true, K, n + 1, tq_nx tp B 200 (tq_nx tp B 200 (tq_nx tp B 200 t)), ?_, h8, ?_, c + 1, S, ?_, ?_, ?_, ?_, ?_, a6, a7, ?_, by omega⟩⟩
                        · rw [gv_eq (F8 61 15 (by decide)), gv_eq (F7 61 15 (by decide)), gv_eq (F5 61 15 (by decide)), wpv hw22, if_neg (by decide), gv_eq (F2 61 15 (by decide)), wpv hw21, if_neg (by decide)]
                        · unfold sn_one; rw [if_neg (by intro q; omega), if_neg (by omega)]; rw [if_neg (by rw [hop]; decide), if_neg (by omega)]; rw [show sn_leaf tp B 200 NT (ls_k t) (tq_nx tp B 200 t) = .inr (tq_nx tp B 200 (tq_nx tp B 200 (tq_nx tp B 200 t))) from by unfold sn_leaf; rw [if_neg (by omega), if_neg (by omega), if_pos (by omega)]; exact if_pos (by omega)]; rfl
                        · rw [gv_eq (F8 61 40 (by decide)), gv_eq (F7 61 40 (by decide)), gv_eq (F5 61 40 (by decide)), wpv hw22, if_pos ⟨rfl, rfl⟩]; exact rfl
                        · rw [gv_eq (F8 61 36 (by decide))]; exact c7
                        · rw [gv_eq (F8 61 37 (by decide)), gv_eq (F7 61 37 (by decide)), gv_eq (F5 61 37 (by decide)), wpv hw22, if_neg (by decide), gv_eq (F2 61 37 (by decide)), wpv hw21, if_pos ⟨rfl, rfl⟩]; exact tn1
                        · rw [gv_eq (F8 61 38 (by decide)), gv_eq (F7 61 38 (by decide)), gv_eq (F5 61 38 (by decide)), wpv hw22, if_neg (by decide), gv_eq (F2 61 38 (by decide)), wpv hw21, if_neg (by decide)]; exact a3
                        · rw [gv_eq (F8 61 39 (by decide)), gv_eq (F7 61 39 (by decide)), gv_eq (F5 61 39 (by decide)), wpv hw22, if_neg (by decide), gv_eq (F2 61 39 (by decide)), wpv hw21, if_neg (by decide)]; exact a4
                        · exact ((((((a5.fr (wpF hw21) (by decide)).fr F2 (by decide)).fr (wpF hw22) (by decide)).fr F5 (by decide)).fr F7 (by decide)).fr F8 (by decide))
                        · show c + 1 + S.length + 1 ≤ 2 * (n + 1); omega
                      · skip
                        refine hq_F.st (s' := (291, _, _, _)) hj276_288 rfl rfl rfl (hs_icn (t := 297) (ci_eqn (by omega)) rfl) ?_
                        refine hq_F.st (s' := (292, _, _, _)) hj276_291 rfl rfl rfl (hs_al (hg_nr (hg_nr (hg_nr (hg_nr g0 (by decide)) (by decide)) (by decide)) (by decide))) ?_
                        refine hq_F.st (s' := (293, _, _, _)) hj276_292 rfl rfl rfl rfl ?_
                        refine hq_F.call hj276_293 rfl rfl si_11_178 (by decide) (by decide) sz_177 (sy_argsV h5.1 sh_61 rfl rfl rfl (Nat.le_of_ble_eq_true rfl) rfl (Nat.le_of_ble_eq_true rfl) rfl (by decide)) (mt_bad h5 ((Int32.ofInt 1))) (fun _ _ q => by rw [q.2.1.1.1, h5.1.1]) ?_
                        rintro r293 w9 ⟨rfl, k1, k2, k3, k4⟩
                        try dsimp only
                        refine hq_F.en hj276_296 rfl rfl ?_
                        exact ⟨k1.1, ((wpF hw21).cov (by decide)).tr ((F2.cov (by decide)).tr (((wpF hw22).cov (by decide)).tr ((F5.cov (by decide)).tr (k2.cov (by decide))))), Or.inr ⟨rfl, 1, (tq_nx tp B 200 (tq_nx tp B 200 t)).2.1, by unfold sn_one; rw [if_neg (by intro q; omega), if_neg (by omega)]; rw [if_neg (by rw [hop]; decide), if_neg (by omega)]; rw [show sn_leaf tp B 200 NT (ls_k t) (tq_nx tp B 200 t) = .inl (1, (tq_nx tp B 200 (tq_nx tp B 200 t)).2.1) from by unfold sn_leaf; rw [if_neg (by omega), if_neg (by omega), if_pos (by omega)]; exact if_neg (by omega)]; rfl, by rw [k3]; decide, k4⟩⟩
                    · skip
                      refine hq_F.st (s' := (267, _, _, _)) hj276_264 rfl rfl rfl (hs_icn (t := 273) (ci_len (by omega)) rfl) ?_
                      refine hq_F.st (s' := (268, _, _, _)) hj276_267 rfl rfl rfl (hs_al (hg_nr (hg_nr (hg_nr g0 (by decide)) (by decide)) (by decide))) ?_
                      refine hq_F.st (s' := (269, _, _, _)) hj276_268 rfl rfl rfl rfl ?_
                      refine hq_F.call hj276_269 rfl rfl si_11_178 (by decide) (by decide) sz_177 (sy_argsV hC22 sh_61 rfl rfl rfl (Nat.le_of_ble_eq_true rfl) rfl (Nat.le_of_ble_eq_true rfl) rfl (by decide)) (mt_bad h3 ((Int32.ofInt 1))) (fun _ _ q => by rw [q.2.1.1.1, hC22.1]) ?_
                      rintro r269 w9 ⟨rfl, k1, k2, k3, k4⟩
                      try dsimp only
                      refine hq_F.en hj276_272 rfl rfl ?_
                      exact ⟨k1.1, ((wpF hw21).cov (by decide)).tr ((F2.cov (by decide)).tr (((wpF hw22).cov (by decide)).tr (k2.cov (by decide)))), Or.inr ⟨rfl, 1, (tq_nx tp B 200 t).2.1, by unfold sn_one; rw [if_neg (by intro q; omega), if_neg (by omega)]; rw [if_neg (by rw [hop]; decide), if_neg (by omega)]; rw [show sn_leaf tp B 200 NT (ls_k t) (tq_nx tp B 200 t) = .inl (1, (tq_nx tp B 200 t).2.1) from by unfold sn_leaf; rw [if_neg (by omega), if_neg (by omega)]; exact if_neg (by omega)]; rfl, by rw [k3]; decide, k4⟩⟩
              · skip
                refine hq_F.st (s' := (150, _, _, _)) hj276_147 rfl rfl rfl (hs_icn (t := 241) (ci_gen (by omega)) rfl) ?_
                refine hq_F.st (s' := (151, _, _, _)) hj276_150 rfl rfl rfl (hs_al (hg_nr (hg_nr (hg_nr g0 (by decide)) (by decide)) (by decide))) ?_
                refine hq_F.call hj276_151 rfl rfl si_11_195 (by decide) (by decide) sz_181 (sy_argsV hC22 sh_61 rfl rfl rfl (Nat.le_of_ble_eq_true rfl) rfl (Nat.le_of_ble_eq_true rfl) rfl (by decide)) (mt_isN h3) (fun _ _ q => by rw [q.1]) ?_
                rintro r151 w22 ⟨rfl, rfl⟩
                try dsimp only
                by_cases hnm : (tq_nx tp B 200 t).1 = 2 ∧ tq_kx (tq_nx tp B 200 t).2.2.2.1 = -1
                · rw [decide_eq_true hnm, show tq_b true = (1 : Int32) from rfl]
                  refine hq_F.st (s' := (163, _, _, _)) hj276_154 rfl rfl rfl (hs_if (ci_ne (by omega)) rfl) ?_
                  refine hq_F.st (s' := (164, _, _, _)) hj276_163 rfl rfl rfl (hs_iln (pi_get_set _ _ _)) ?_
                  refine hq_F.st (s' := (165, _, _, _)) hj276_164 rfl rfl rfl rfl ?_
                  by_cases b165 : ¬ (v).toInt = 2
                  · skip
                    refine hq_F.st (s' := (183, _, _, _)) hj276_165 rfl rfl rfl (hs_ic (ci_ne (by omega)) rfl) ?_
                    refine hq_F.st (s' := (184, _, _, _)) hj276_183 rfl rfl rfl (hs_iln (pi_get_set _ _ _)) ?_
                    refine hq_F.st (s' := (185, _, _, _)) hj276_184 rfl rfl rfl rfl ?_
                    by_cases b185 : ¬ (v).toInt = 3
                    · skip
                      refine hq_F.st (s' := (203, _, _, _)) hj276_185 rfl rfl rfl (hs_ic (ci_ne (by omega)) rfl) ?_
                      refine hq_F.st (s' := (204, _, _, _)) hj276_203 rfl rfl rfl (hs_al (hg_nr (hg_nr (hg_nr g0 (by decide)) (by decide)) (by decide))) ?_
                      refine hq_F.st (s' := (205, _, _, _)) hj276_204 rfl rfl rfl rfl ?_
                      refine hq_F.st (s' := (206, _, _, _)) hj276_205 rfl rfl rfl (hs_al (hg_nr (hg_nr (hg_nr g0 (by decide)) (by decide)) (by decide))) ?_
                      refine hq_F.st (s' := (209, _, _, _)) hj276_206 rfl rfl rfl (hq_gf hC22 sh_61 sk_11_33 (hq_ref hC22 sh_61 (b := 63) rfl)) ?_
                      refine hq_F.st (s' := (210, _, _, _)) hj276_209 rfl rfl rfl rfl ?_
                      refine hq_F.st (s' := (211, _, _, _)) hj276_210 rfl rfl rfl (sy_iav hC22 hq_s63 (n := 0) (by decide) (by decide)) ?_
                      refine hq_F.call hj276_211 rfl rfl si_11_199 (by decide) (by decide) sz_184 (sy_argsV hC22 sh_61 rfl rfl rfl (Nat.le_of_ble_eq_true rfl) rfl (Nat.le_of_ble_eq_true rfl) rfl (by decide)) (mn_f (d := d + 2) (off := 0) (s := 0) hC22 hN3 ho (h3.2.2.2.2.2.2.2 hnm.1) (h3.2.2.2.2.1.2.2.2.1 hnm.1) (by decide) (by rw [gv_eq (hq_cell FM3 (by decide))]; have := hM.2.1 0 (by omega); rw [Nat.zero_add] at this; exact this) (by show 0 + 0 + nt_c 0 NT ≤ 54; omega)) (fun _ _ q => by rw [q.1]) ?_
                      rintro r211 w22 ⟨rfl, u, rfl, hu⟩
                      try dsimp only
                      have hur := nt_f_r (s := 0) (u := (tq_nx tp B 200 t).2.2.2.1) ho
                      have hso : ls_look (if ls_k t = 22 then 3 else if ls_k t = 23 then 2 else 0) (tq_nx tp B 200 t) NT = ls_look 0 (tq_nx tp B 200 t) NT := by rw [if_neg (by omega), if_neg (by omega)]
                      refine hq_F.st (s' := (216, _, _, _)) hj276_214 rfl rfl rfl (sy_is (by decide)) ?_
                      refine hq_F.st (s' := (218, _, _, _)) hj276_216 rfl rfl rfl (hs_il (pi_get_set _ _ _)) ?_
                      by_cases b218 : 0 ≤ (u).toInt
                      · skip
                        refine hq_F.st (s' := (227, _, _, _)) hj276_218 rfl rfl rfl (hs_if (ci_ge (by omega)) rfl) ?_
                        refine hq_F.st (s' := (228, _, _, _)) hj276_227 rfl rfl rfl (hs_al (hg_nr (hg_nr (hg_nr (hg_nr g0 (by decide)) (by decide)) (by decide)) (by decide))) ?_
                        refine hq_F.st (s' := (229, _, _, _)) hj276_228 rfl rfl rfl (hs_iln (hg_ne (pi_get_set _ _ _) (by decide))) ?_
                        refine hq_F.st (s' := (230, _, _, _)) hj276_229 rfl rfl rfl rfl ?_
                        refine hq_F.st (s' := (232, _, _, _)) hj276_230 rfl rfl rfl (hs_il (pi_get_set _ _ _)) ?_
                        refine hq_F.call hj276_232 rfl rfl si_11_430 (by decide) (by decide) sz_272 (sy_argsV hC22 sh_61 rfl rfl rfl (Nat.le_of_ble_eq_true rfl) rfl (Nat.le_of_ble_eq_true rfl) rfl (by decide)) (sm_code (d := d + 2) (c := c) hC22 cc22 (by omega)) (fun _ _ q => by rw [q.2.1.1, hC22.1]) ?_
                        rintro r232 w5 ⟨rfl, hC5, F5, c5⟩
                        try dsimp only
                        have h5 := (h3).fr hC5 F5 rfl
                        refine hq_F.st (s' := (236, _, _, _)) hj276_235 rfl rfl rfl (hs_al (hg_nr (hg_nr (hg_nr (hg_nr g0 (by decide)) (by decide)) (by decide)) (by decide))) ?_
                        refine hq_F.call hj276_236 rfl rfl si_11_181 (by decide) (by decide) sz_176 (sy_argsV hC5 sh_61 rfl rfl rfl (Nat.le_of_ble_eq_true rfl) rfl (Nat.le_of_ble_eq_true rfl) rfl (by decide)) (mt_adv (d := d + 1) h5 (by have := hnm.1; omega)) (fun _ _ q => by rw [q.2.1.1.1, hC5.1]) ?_
                        rintro r236 w6 ⟨rfl, h6, F6⟩
                        try dsimp only
                        refine hq_F.st (s' := (240, _, _, _)) hj276_239 rfl rfl rfl rfl ?_
                        refine hq_F.en hj276_240 rfl rfl ?_
                        have lk := ls_look_in ho (by omega) hnm hu (by omega)
                        obtain ⟨b, hb, rfl, lb⟩ := lk
                        refine ⟨h6.1, ((wpF hw21).cov (by decide)).tr ((F2.cov (by decide)).tr (((wpF hw22).cov (by decide)).tr ((F5.cov (by decide)).tr (F6.cov (by decide))))), Or.inl ⟨rfl, ?_, true, K, n + 1, tq_nx tp B 200 (tq_nx tp B 200 t), ?_, h6, ?_, c + 1, S, ?_, ?_, ?_, ?_, ?_, a6, a7, ?_, by omega⟩⟩
                        · rw [gv_eq (F6 61 15 (by decide)), gv_eq (F5 61 15 (by decide)), wpv hw22, if_neg (by decide), gv_eq (F2 61 15 (by decide)), wpv hw21, if_neg (by decide)]
                        · unfold sn_one; rw [if_neg (by intro q; omega), if_neg (by omega)]; rw [if_neg (by rw [hop]; decide), if_neg (by omega)]; rw [show sn_leaf tp B 200 NT (ls_k t) (tq_nx tp B 200 t) = .inr (tq_nx tp B 200 (tq_nx tp B 200 t)) from by unfold sn_leaf; rw [if_neg (by omega), if_pos (by omega), hso]; rw [lb]; rfl]; rfl
                        · rw [gv_eq (F6 61 40 (by decide)), gv_eq (F5 61 40 (by decide)), wpv hw22, if_pos ⟨rfl, rfl⟩]; exact rfl
                        · rw [gv_eq (F6 61 36 (by decide))]; exact c5
                        · rw [gv_eq (F6 61 37 (by decide)), gv_eq (F5 61 37 (by decide)), wpv hw22, if_neg (by decide), gv_eq (F2 61 37 (by decide)), wpv hw21, if_pos ⟨rfl, rfl⟩]; exact tn1
                        · rw [gv_eq (F6 61 38 (by decide)), gv_eq (F5 61 38 (by decide)), wpv hw22, if_neg (by decide), gv_eq (F2 61 38 (by decide)), wpv hw21, if_neg (by decide)]; exact a3
                        · rw [gv_eq (F6 61 39 (by decide)), gv_eq (F5 61 39 (by decide)), wpv hw22, if_neg (by decide), gv_eq (F2 61 39 (by decide)), wpv hw21, if_neg (by decide)]; exact a4
                        · exact (((((a5.fr (wpF hw21) (by decide)).fr F2 (by decide)).fr (wpF hw22) (by decide)).fr F5 (by decide)).fr F6 (by decide))
                        · show c + 1 + S.length + 1 ≤ 2 * (n + 1); omega
                      · skip
                        refine hq_F.st (s' := (221, _, _, _)) hj276_218 rfl rfl rfl (hs_ifn (t := 227) (ci_gen (by omega)) rfl) ?_
                        refine hq_F.st (s' := (222, _, _, _)) hj276_221 rfl rfl rfl (hs_al (hg_nr (hg_nr (hg_nr (hg_nr g0 (by decide)) (by decide)) (by decide)) (by decide))) ?_
                        refine hq_F.st (s' := (223, _, _, _)) hj276_222 rfl rfl rfl rfl ?_
                        refine hq_F.call hj276_223 rfl rfl si_11_178 (by decide) (by decide) sz_177 (sy_argsV hC22 sh_61 rfl rfl rfl (Nat.le_of_ble_eq_true rfl) rfl (Nat.le_of_ble_eq_true rfl) rfl (by decide)) (mt_bad h3 ((Int32.ofInt 3))) (fun _ _ q => by rw [q.2.1.1.1, hC22.1]) ?_
                        rintro r223 w9 ⟨rfl, k1, k2, k3, k4⟩
                        try dsimp only
                        refine hq_F.en hj276_226 rfl rfl ?_
                        exact ⟨k1.1, ((wpF hw21).cov (by decide)).tr ((F2.cov (by decide)).tr (((wpF hw22).cov (by decide)).tr (k2.cov (by decide)))), Or.inr ⟨rfl, 3, (tq_nx tp B 200 t).2.1, by unfold sn_one; rw [if_neg (by intro q; omega), if_neg (by omega)]; rw [if_neg (by rw [hop]; decide), if_neg (by omega)]; rw [show sn_leaf tp B 200 NT (ls_k t) (tq_nx tp B 200 t) = .inl (3, (tq_nx tp B 200 t).2.1) from by unfold sn_leaf; rw [if_neg (by omega), if_pos (by omega), hso]; rw [ls_look_3 hnm (by omega)]; rfl]; rfl, by rw [k3]; decide, k4⟩⟩
                    · skip
                      refine hq_F.st (s' := (188, _, _, _)) hj276_185 rfl rfl rfl (hs_icn (t := 203) (ci_nen (by omega)) rfl) ?_
                      refine hq_F.st (s' := (189, _, _, _)) hj276_188 rfl rfl rfl (hs_al (hg_nr (hg_nr (hg_nr g0 (by decide)) (by decide)) (by decide))) ?_
                      refine hq_F.st (s' := (191, _, _, _)) hj276_189 rfl rfl rfl rfl ?_
                      refine hq_F.st (s' := (192, _, _, _)) hj276_191 rfl rfl rfl (hs_al (hg_nr (hg_nr (hg_nr g0 (by decide)) (by decide)) (by decide))) ?_
                      refine hq_F.st (s' := (195, _, _, _)) hj276_192 rfl rfl rfl (hq_gf hC22 sh_61 sk_11_33 (hq_ref hC22 sh_61 (b := 63) rfl)) ?_
                      refine hq_F.st (s' := (196, _, _, _)) hj276_195 rfl rfl rfl rfl ?_
                      refine hq_F.st (s' := (197, _, _, _)) hj276_196 rfl rfl rfl (sy_iav hC22 hq_s63 (n := 2) (by decide) (by decide)) ?_
                      refine hq_F.call hj276_197 rfl rfl si_11_199 (by decide) (by decide) sz_184 (sy_argsV hC22 sh_61 rfl rfl rfl (Nat.le_of_ble_eq_true rfl) rfl (Nat.le_of_ble_eq_true rfl) rfl (by decide)) (mn_f (d := d + 2) (off := 0) (s := 2) hC22 hN3 ho (h3.2.2.2.2.2.2.2 hnm.1) (h3.2.2.2.2.1.2.2.2.1 hnm.1) (by decide) (by rw [gv_eq (hq_cell FM3 (by decide))]; have := hM.2.1 2 (by omega); rw [Nat.zero_add] at this; exact this) (by show 0 + 10 + nt_c 2 NT ≤ 54; omega)) (fun _ _ q => by rw [q.1]) ?_
                      rintro r197 w22 ⟨rfl, u, rfl, hu⟩
                      try dsimp only
                      have hur := nt_f_r (s := 2) (u := (tq_nx tp B 200 t).2.2.2.1) ho
                      have hso : ls_look (if ls_k t = 22 then 3 else if ls_k t = 23 then 2 else 0) (tq_nx tp B 200 t) NT = ls_look 2 (tq_nx tp B 200 t) NT := by rw [if_neg (by omega), if_pos (by omega)]
                      refine hq_F.st (s' := (214, _, _, _)) hj276_200 rfl rfl rfl rfl ?_
                      refine hq_F.st (s' := (216, _, _, _)) hj276_214 rfl rfl rfl (sy_is (by decide)) ?_
                      refine hq_F.st (s' := (218, _, _, _)) hj276_216 rfl rfl rfl (hs_il (pi_get_set _ _ _)) ?_
                      by_cases b218 : 0 ≤ (u).toInt
                      · skip
                        refine hq_F.st (s' := (227, _, _, _)) hj276_218 rfl rfl rfl (hs_if (ci_ge (by omega)) rfl) ?_
                        refine hq_F.st (s' := (228, _, _, _)) hj276_227 rfl rfl rfl (hs_al (hg_nr (hg_nr (hg_nr (hg_nr g0 (by decide)) (by decide)) (by decide)) (by decide))) ?_
                        refine hq_F.st (s' := (229, _, _, _)) hj276_228 rfl rfl rfl (hs_iln (hg_ne (pi_get_set _ _ _) (by decide))) ?_
                        refine hq_F.st (s' := (230, _, _, _)) hj276_229 rfl rfl rfl rfl ?_
                        refine hq_F.st (s' := (232, _, _, _)) hj276_230 rfl rfl rfl (hs_il (pi_get_set _ _ _)) ?_
                        refine hq_F.call hj276_232 rfl rfl si_11_430 (by decide) (by decide) sz_272 (sy_argsV hC22 sh_61 rfl rfl rfl (Nat.le_of_ble_eq_true rfl) rfl (Nat.le_of_ble_eq_true rfl) rfl (by decide)) (sm_code (d := d + 2) (c := c) hC22 cc22 (by omega)) (fun _ _ q => by rw [q.2.1.1, hC22.1]) ?_
                        rintro r232 w5 ⟨rfl, hC5, F5, c5⟩
                        try dsimp only
                        have h5 := (h3).fr hC5 F5 rfl
                        refine hq_F.st (s' := (236, _, _, _)) hj276_235 rfl rfl rfl (hs_al (hg_nr (hg_nr (hg_nr (hg_nr g0 (by decide)) (by decide)) (by decide)) (by decide))) ?_
                        refine hq_F.call hj276_236 rfl rfl si_11_181 (by decide) (by decide) sz_176 (sy_argsV hC5 sh_61 rfl rfl rfl (Nat.le_of_ble_eq_true rfl) rfl (Nat.le_of_ble_eq_true rfl) rfl (by decide)) (mt_adv (d := d + 1) h5 (by have := hnm.1; omega)) (fun _ _ q => by rw [q.2.1.1.1, hC5.1]) ?_
                        rintro r236 w6 ⟨rfl, h6, F6⟩
                        try dsimp only
                        refine hq_F.st (s' := (240, _, _, _)) hj276_239 rfl rfl rfl rfl ?_
                        refine hq_F.en hj276_240 rfl rfl ?_
                        have lk := ls_look_in ho (by omega) hnm hu (by omega)
                        obtain ⟨b, hb, rfl, lb⟩ := lk
                        refine ⟨h6.1, ((wpF hw21).cov (by decide)).tr ((F2.cov (by decide)).tr (((wpF hw22).cov (by decide)).tr ((F5.cov (by decide)).tr (F6.cov (by decide))))), Or.inl ⟨rfl, ?_, true, K, n + 1, tq_nx tp B 200 (tq_nx tp B 200 t), ?_, h6, ?_, c + 1, S, ?_, ?_, ?_, ?_, ?_, a6, a7, ?_, by omega⟩⟩
                        · rw [gv_eq (F6 61 15 (by decide)), gv_eq (F5 61 15 (by decide)), wpv hw22, if_neg (by decide), gv_eq (F2 61 15 (by decide)), wpv hw21, if_neg (by decide)]
                        · unfold sn_one; rw [if_neg (by intro q; omega), if_neg (by omega)]; rw [if_neg (by rw [hop]; decide), if_neg (by omega)]; rw [show sn_leaf tp B 200 NT (ls_k t) (tq_nx tp B 200 t) = .inr (tq_nx tp B 200 (tq_nx tp B 200 t)) from by unfold sn_leaf; rw [if_neg (by omega), if_pos (by omega), hso]; rw [lb]; rfl]; rfl
                        · rw [gv_eq (F6 61 40 (by decide)), gv_eq (F5 61 40 (by decide)), wpv hw22, if_pos ⟨rfl, rfl⟩]; exact rfl
                        · rw [gv_eq (F6 61 36 (by decide))]; exact c5
                        · rw [gv_eq (F6 61 37 (by decide)), gv_eq (F5 61 37 (by decide)), wpv hw22, if_neg (by decide), gv_eq (F2 61 37 (by decide)), wpv hw21, if_pos ⟨rfl, rfl⟩]; exact tn1
                        · rw [gv_eq (F6 61 38 (by decide)), gv_eq (F5 61 38 (by decide)), wpv hw22, if_neg (by decide), gv_eq (F2 61 38 (by decide)), wpv hw21, if_neg (by decide)]; exact a3
                        · rw [gv_eq (F6 61 39 (by decide)), gv_eq (F5 61 39 (by decide)), wpv hw22, if_neg (by decide), gv_eq (F2 61 39 (by decide)), wpv hw21, if_neg (by decide)]; exact a4
                        · exact (((((a5.fr (wpF hw21) (by decide)).fr F2 (by decide)).fr (wpF hw22) (by decide)).fr F5 (by decide)).fr F6 (by decide))
                        · show c + 1 + S.length + 1 ≤ 2 * (n + 1); omega
                      · skip
                        refine hq_F.st (s' := (221, _, _, _)) hj276_218 rfl rfl rfl (hs_ifn (t := 227) (ci_gen (by omega)) rfl) ?_
                        refine hq_F.st (s' := (222, _, _, _)) hj276_221 rfl rfl rfl (hs_al (hg_nr (hg_nr (hg_nr (hg_nr g0 (by decide)) (by decide)) (by decide)) (by decide))) ?_
                        refine hq_F.st (s' := (223, _, _, _)) hj276_222 rfl rfl rfl rfl ?_
                        refine hq_F.call hj276_223 rfl rfl si_11_178 (by decide) (by decide) sz_177 (sy_argsV hC22 sh_61 rfl rfl rfl (Nat.le_of_ble_eq_true rfl) rfl (Nat.le_of_ble_eq_true rfl) rfl (by decide)) (mt_bad h3 ((Int32.ofInt 3))) (fun _ _ q => by rw [q.2.1.1.1, hC22.1]) ?_
                        rintro r223 w9 ⟨rfl, k1, k2, k3, k4⟩
                        try dsimp only
                        refine hq_F.en hj276_226 rfl rfl ?_
                        exact ⟨k1.1, ((wpF hw21).cov (by decide)).tr ((F2.cov (by decide)).tr (((wpF hw22).cov (by decide)).tr (k2.cov (by decide)))), Or.inr ⟨rfl, 3, (tq_nx tp B 200 t).2.1, by unfold sn_one; rw [if_neg (by intro q; omega), if_neg (by omega)]; rw [if_neg (by rw [hop]; decide), if_neg (by omega)]; rw [show sn_leaf tp B 200 NT (ls_k t) (tq_nx tp B 200 t) = .inl (3, (tq_nx tp B 200 t).2.1) from by unfold sn_leaf; rw [if_neg (by omega), if_pos (by omega), hso]; rw [ls_look_3 hnm (by omega)]; rfl]; rfl, by rw [k3]; decide, k4⟩⟩
                  · skip
                    refine hq_F.st (s' := (168, _, _, _)) hj276_165 rfl rfl rfl (hs_icn (t := 183) (ci_nen (by omega)) rfl) ?_
                    refine hq_F.st (s' := (169, _, _, _)) hj276_168 rfl rfl rfl (hs_al (hg_nr (hg_nr (hg_nr g0 (by decide)) (by decide)) (by decide))) ?_
                    refine hq_F.st (s' := (171, _, _, _)) hj276_169 rfl rfl rfl rfl ?_
                    refine hq_F.st (s' := (172, _, _, _)) hj276_171 rfl rfl rfl (hs_al (hg_nr (hg_nr (hg_nr g0 (by decide)) (by decide)) (by decide))) ?_
                    refine hq_F.st (s' := (175, _, _, _)) hj276_172 rfl rfl rfl (hq_gf hC22 sh_61 sk_11_33 (hq_ref hC22 sh_61 (b := 63) rfl)) ?_
                    refine hq_F.st (s' := (176, _, _, _)) hj276_175 rfl rfl rfl rfl ?_
                    refine hq_F.st (s' := (177, _, _, _)) hj276_176 rfl rfl rfl (sy_iav hC22 hq_s63 (n := 3) (by decide) (by decide)) ?_
                    refine hq_F.call hj276_177 rfl rfl si_11_199 (by decide) (by decide) sz_184 (sy_argsV hC22 sh_61 rfl rfl rfl (Nat.le_of_ble_eq_true rfl) rfl (Nat.le_of_ble_eq_true rfl) rfl (by decide)) (mn_f (d := d + 2) (off := 0) (s := 3) hC22 hN3 ho (h3.2.2.2.2.2.2.2 hnm.1) (h3.2.2.2.2.1.2.2.2.1 hnm.1) (by decide) (by rw [gv_eq (hq_cell FM3 (by decide))]; have := hM.2.1 3 (by omega); rw [Nat.zero_add] at this; exact this) (by show 0 + 15 + nt_c 3 NT ≤ 54; omega)) (fun _ _ q => by rw [q.1]) ?_
                    rintro r177 w22 ⟨rfl, u, rfl, hu⟩
                    try dsimp only
                    have hur := nt_f_r (s := 3) (u := (tq_nx tp B 200 t).2.2.2.1) ho
                    have hso : ls_look (if ls_k t = 22 then 3 else if ls_k t = 23 then 2 else 0) (tq_nx tp B 200 t) NT = ls_look 3 (tq_nx tp B 200 t) NT := by rw [if_pos (by omega)]
                    refine hq_F.st (s' := (214, _, _, _)) hj276_180 rfl rfl rfl rfl ?_
                    refine hq_F.st (s' := (216, _, _, _)) hj276_214 rfl rfl rfl (sy_is (by decide)) ?_
                    refine hq_F.st (s' := (218, _, _, _)) hj276_216 rfl rfl rfl (hs_il (pi_get_set _ _ _)) ?_
                    by_cases b218 : 0 ≤ (u).toInt
                    · skip
                      refine hq_F.st (s' := (227, _, _, _)) hj276_218 rfl rfl rfl (hs_if (ci_ge (by omega)) rfl) ?_
                      refine hq_F.st (s' := (228, _, _, _)) hj276_227 rfl rfl rfl (hs_al (hg_nr (hg_nr (hg_nr (hg_nr g0 (by decide)) (by decide)) (by decide)) (by decide))) ?_
                      refine hq_F.st (s' := (229, _, _, _)) hj276_228 rfl rfl rfl (hs_iln (hg_ne (pi_get_set _ _ _) (by decide))) ?_
                      refine hq_F.st (s' := (230, _, _, _)) hj276_229 rfl rfl rfl rfl ?_
                      refine hq_F.st (s' := (232, _, _, _)) hj276_230 rfl rfl rfl (hs_il (pi_get_set _ _ _)) ?_
                      refine hq_F.call hj276_232 rfl rfl si_11_430 (by decide) (by decide) sz_272 (sy_argsV hC22 sh_61 rfl rfl rfl (Nat.le_of_ble_eq_true rfl) rfl (Nat.le_of_ble_eq_true rfl) rfl (by decide)) (sm_code (d := d + 2) (c := c) hC22 cc22 (by omega)) (fun _ _ q => by rw [q.2.1.1, hC22.1]) ?_
                      rintro r232 w5 ⟨rfl, hC5, F5, c5⟩
                      try dsimp only
                      have h5 := (h3).fr hC5 F5 rfl
                      refine hq_F.st (s' := (236, _, _, _)) hj276_235 rfl rfl rfl (hs_al (hg_nr (hg_nr (hg_nr (hg_nr g0 (by decide)) (by decide)) (by decide)) (by decide))) ?_
                      refine hq_F.call hj276_236 rfl rfl si_11_181 (by decide) (by decide) sz_176 (sy_argsV hC5 sh_61 rfl rfl rfl (Nat.le_of_ble_eq_true rfl) rfl (Nat.le_of_ble_eq_true rfl) rfl (by decide)) (mt_adv (d := d + 1) h5 (by have := hnm.1; omega)) (fun _ _ q => by rw [q.2.1.1.1, hC5.1]) ?_
                      rintro r236 w6 ⟨rfl, h6, F6⟩
                      try dsimp only
                      refine hq_F.st (s' := (240, _, _, _)) hj276_239 rfl rfl rfl rfl ?_
                      refine hq_F.en hj276_240 rfl rfl ?_
                      have lk := ls_look_in ho (by omega) hnm hu (by omega)
                      obtain ⟨b, hb, rfl, lb⟩ := lk
                      refine ⟨h6.1, ((wpF hw21).cov (by decide)).tr ((F2.cov (by decide)).tr (((wpF hw22).cov (by decide)).tr ((F5.cov (by decide)).tr (F6.cov (by decide))))), Or.inl ⟨rfl, ?_, true, K, n + 1, tq_nx tp B 200 (tq_nx tp B 200 t), ?_, h6, ?_, c + 1, S, ?_, ?_, ?_, ?_, ?_, a6, a7, ?_, by omega⟩⟩
                      · rw [gv_eq (F6 61 15 (by decide)), gv_eq (F5 61 15 (by decide)), wpv hw22, if_neg (by decide), gv_eq (F2 61 15 (by decide)), wpv hw21, if_neg (by decide)]
                      · unfold sn_one; rw [if_neg (by intro q; omega), if_neg (by omega)]; rw [if_neg (by rw [hop]; decide), if_neg (by omega)]; rw [show sn_leaf tp B 200 NT (ls_k t) (tq_nx tp B 200 t) = .inr (tq_nx tp B 200 (tq_nx tp B 200 t)) from by unfold sn_leaf; rw [if_neg (by omega), if_pos (by omega), hso]; rw [lb]; rfl]; rfl
                      · rw [gv_eq (F6 61 40 (by decide)), gv_eq (F5 61 40 (by decide)), wpv hw22, if_pos ⟨rfl, rfl⟩]; exact rfl
                      · rw [gv_eq (F6 61 36 (by decide))]; exact c5
                      · rw [gv_eq (F6 61 37 (by decide)), gv_eq (F5 61 37 (by decide)), wpv hw22, if_neg (by decide), gv_eq (F2 61 37 (by decide)), wpv hw21, if_pos ⟨rfl, rfl⟩]; exact tn1
                      · rw [gv_eq (F6 61 38 (by decide)), gv_eq (F5 61 38 (by decide)), wpv hw22, if_neg (by decide), gv_eq (F2 61 38 (by decide)), wpv hw21, if_neg (by decide)]; exact a3
                      · rw [gv_eq (F6 61 39 (by decide)), gv_eq (F5 61 39 (by decide)), wpv hw22, if_neg (by decide), gv_eq (F2 61 39 (by decide)), wpv hw21, if_neg (by decide)]; exact a4
                      · exact (((((a5.fr (wpF hw21) (by decide)).fr F2 (by decide)).fr (wpF hw22) (by decide)).fr F5 (by decide)).fr F6 (by decide))
                      · show c + 1 + S.length + 1 ≤ 2 * (n + 1); omega
                    · skip
                      refine hq_F.st (s' := (221, _, _, _)) hj276_218 rfl rfl rfl (hs_ifn (t := 227) (ci_gen (by omega)) rfl) ?_
                      refine hq_F.st (s' := (222, _, _, _)) hj276_221 rfl rfl rfl (hs_al (hg_nr (hg_nr (hg_nr (hg_nr g0 (by decide)) (by decide)) (by decide)) (by decide))) ?_
                      refine hq_F.st (s' := (223, _, _, _)) hj276_222 rfl rfl rfl rfl ?_
                      refine hq_F.call hj276_223 rfl rfl si_11_178 (by decide) (by decide) sz_177 (sy_argsV hC22 sh_61 rfl rfl rfl (Nat.le_of_ble_eq_true rfl) rfl (Nat.le_of_ble_eq_true rfl) rfl (by decide)) (mt_bad h3 ((Int32.ofInt 3))) (fun _ _ q => by rw [q.2.1.1.1, hC22.1]) ?_
                      rintro r223 w9 ⟨rfl, k1, k2, k3, k4⟩
                      try dsimp only
                      refine hq_F.en hj276_226 rfl rfl ?_
                      exact ⟨k1.1, ((wpF hw21).cov (by decide)).tr ((F2.cov (by decide)).tr (((wpF hw22).cov (by decide)).tr (k2.cov (by decide)))), Or.inr ⟨rfl, 3, (tq_nx tp B 200 t).2.1, by unfold sn_one; rw [if_neg (by intro q; omega), if_neg (by omega)]; rw [if_neg (by rw [hop]; decide), if_neg (by omega)]; rw [show sn_leaf tp B 200 NT (ls_k t) (tq_nx tp B 200 t) = .inl (3, (tq_nx tp B 200 t).2.1) from by unfold sn_leaf; rw [if_neg (by omega), if_pos (by omega), hso]; rw [ls_look_3 hnm (by omega)]; rfl]; rfl, by rw [k3]; decide, k4⟩⟩
                · rw [decide_eq_false hnm, show tq_b false = (0 : Int32) from rfl]
                  refine hq_F.st (s' := (157, _, _, _)) hj276_154 rfl rfl rfl (hs_ifn (t := 163) (ci_nen (by omega)) rfl) ?_
                  refine hq_F.st (s' := (158, _, _, _)) hj276_157 rfl rfl rfl (hs_al (hg_nr (hg_nr (hg_nr g0 (by decide)) (by decide)) (by decide))) ?_
                  refine hq_F.st (s' := (159, _, _, _)) hj276_158 rfl rfl rfl rfl ?_
                  refine hq_F.call hj276_159 rfl rfl si_11_178 (by decide) (by decide) sz_177 (sy_argsV hC22 sh_61 rfl rfl rfl (Nat.le_of_ble_eq_true rfl) rfl (Nat.le_of_ble_eq_true rfl) rfl (by decide)) (mt_bad h3 ((Int32.ofInt 1))) (fun _ _ q => by rw [q.2.1.1.1, hC22.1]) ?_
                  rintro r159 w9 ⟨rfl, k1, k2, k3, k4⟩
                  try dsimp only
                  refine hq_F.en hj276_162 rfl rfl ?_
                  exact ⟨k1.1, ((wpF hw21).cov (by decide)).tr ((F2.cov (by decide)).tr (((wpF hw22).cov (by decide)).tr (k2.cov (by decide)))), Or.inr ⟨rfl, 1, (tq_nx tp B 200 t).2.1, by unfold sn_one; rw [if_neg (by intro q; omega), if_neg (by omega)]; rw [if_neg (by rw [hop]; decide), if_neg (by omega)]; rw [show sn_leaf tp B 200 NT (ls_k t) (tq_nx tp B 200 t) = .inl (1, (tq_nx tp B 200 t).2.1) from by unfold sn_leaf; rw [if_neg (by omega), if_pos (by omega), ls_look_1 hnm]; rfl]; rfl, by rw [k3]; decide, k4⟩⟩
            · skip
              refine hq_F.st (s' := (136, _, _, _)) hj276_133 rfl rfl rfl (hs_icn (t := 145) (ci_gen (by omega)) rfl) ?_
              refine hq_F.st (s' := (137, _, _, _)) hj276_136 rfl rfl rfl (hs_al (hg_nr (hg_nr (hg_nr g0 (by decide)) (by decide)) (by decide))) ?_
              refine hq_F.st (s' := (138, _, _, _)) hj276_137 rfl rfl rfl (hs_iln (pi_get_set _ _ _)) ?_
              refine hq_F.st (s' := (139, _, _, _)) hj276_138 rfl rfl rfl rfl ?_
              refine hq_F.st (s' := (140, _, _, _)) hj276_139 rfl rfl rfl rfl ?_
              refine hq_F.call hj276_140 rfl rfl si_11_430 (by decide) (by decide) sz_272 (sy_argsV hC22 sh_61 rfl rfl rfl (Nat.le_of_ble_eq_true rfl) rfl (Nat.le_of_ble_eq_true rfl) rfl (by decide)) (sm_code (d := d + 2) (c := c) hC22 cc22 (by omega)) (fun _ _ q => by rw [q.2.1.1, hC22.1]) ?_
              rintro r140 w5 ⟨rfl, hC5, F5, c5⟩
              try dsimp only
              have h5 := (h2.fr hC22 (wpF hw22) rfl).fr hC5 F5 rfl
              refine hq_F.st (s' := (144, _, _, _)) hj276_143 rfl rfl rfl rfl ?_
              refine hq_F.en hj276_144 rfl rfl ?_
              refine ⟨hC5, ((wpF hw21).cov (by decide)).tr ((F2.cov (by decide)).tr (((wpF hw22).cov (by decide)).tr ((F5.cov (by decide))))), Or.inl ⟨rfl, ?_, true, K, n + 1, (tq_nx tp B 200 t), ?_, h5, ?_, c + 1, S, ?_, ?_, ?_, ?_, ?_, a6, a7, ?_, by omega⟩⟩
              · rw [gv_eq (F5 61 15 (by decide)), wpv hw22, if_neg (by decide), gv_eq (F2 61 15 (by decide)), wpv hw21, if_neg (by decide)]
              · unfold sn_one; rw [if_neg (by intro q; omega), if_neg (by omega)]; rw [if_neg (by rw [hop]; decide), if_neg (by omega)]; rw [show sn_leaf tp B 200 NT (ls_k t) (tq_nx tp B 200 t) = .inr ((tq_nx tp B 200 t)) from by exact if_pos (by omega)]; rfl
              · rw [gv_eq (F5 61 40 (by decide)), wpv hw22, if_pos ⟨rfl, rfl⟩]; exact rfl
              · exact c5
              · rw [gv_eq (F5 61 37 (by decide)), wpv hw22, if_neg (by decide), gv_eq (F2 61 37 (by decide)), wpv hw21, if_pos ⟨rfl, rfl⟩]; exact tn1
              · rw [gv_eq (F5 61 38 (by decide)), wpv hw22, if_neg (by decide), gv_eq (F2 61 38 (by decide)), wpv hw21, if_neg (by decide)]; exact a3
              · rw [gv_eq (F5 61 39 (by decide)), wpv hw22, if_neg (by decide), gv_eq (F2 61 39 (by decide)), wpv hw21, if_neg (by decide)]; exact a4
              · exact ((((a5.fr (wpF hw21) (by decide)).fr F2 (by decide)).fr (wpF hw22) (by decide)).fr F5 (by decide))
              · show c + 1 + S.length + 1 ≤ 2 * (n + 1); omega
          · skip
            refine hq_F.st (s' := (56, _, _, _)) hj276_53 rfl rfl rfl (hs_icn (t := 62) (ci_len (by omega)) rfl) ?_
            refine hq_F.st (s' := (57, _, _, _)) hj276_56 rfl rfl rfl (hs_al (hg_nr (hg_nr (hg_nr g0 (by decide)) (by decide)) (by decide))) ?_
            refine hq_F.st (s' := (58, _, _, _)) hj276_57 rfl rfl rfl rfl ?_
            refine hq_F.call hj276_58 rfl rfl si_11_178 (by decide) (by decide) sz_177 (sy_argsV h.1 sh_61 rfl rfl rfl (Nat.le_of_ble_eq_true rfl) rfl (Nat.le_of_ble_eq_true rfl) rfl (by decide)) (mt_bad h ((Int32.ofInt 4))) (fun _ _ q => by rw [q.2.1.1.1, h.1.1]) ?_
            rintro r58 w9 ⟨rfl, k1, k2, k3, k4⟩
            try dsimp only
            refine hq_F.en hj276_61 rfl rfl ?_
            exact ⟨k1.1, k2.cov (by decide), Or.inr ⟨rfl, 4, t.2.1, by unfold sn_one; rw [if_neg (by intro q; omega)]; exact if_pos (by omega), by rw [k3]; decide, k4⟩⟩
      · skip
        refine hq_F.st (s' := (32, _, _, _)) hj276_29 rfl rfl rfl (hs_ifn (t := 38) (ci_gen (by omega)) rfl) ?_
        refine hq_F.st (s' := (33, _, _, _)) hj276_32 rfl rfl rfl (hs_al (hg_nr (hg_nr (hg_nr g0 (by decide)) (by decide)) (by decide))) ?_
        refine hq_F.st (s' := (34, _, _, _)) hj276_33 rfl rfl rfl rfl ?_
        refine hq_F.call hj276_34 rfl rfl si_11_178 (by decide) (by decide) sz_177 (sy_argsV h.1 sh_61 rfl rfl rfl (Nat.le_of_ble_eq_true rfl) rfl (Nat.le_of_ble_eq_true rfl) rfl (by decide)) (mt_bad h ((Int32.ofInt 1))) (fun _ _ q => by rw [q.2.1.1.1, h.1.1]) ?_
        rintro r34 w9 ⟨rfl, k1, k2, k3, k4⟩
        try dsimp only
        refine hq_F.en hj276_37 rfl rfl ?_
        exact ⟨k1.1, k2.cov (by decide), Or.inr ⟨rfl, 1, t.2.1, if_pos ⟨hop, by omega⟩, by rw [k3]; decide, k4⟩⟩
    · rw [show tq_b true = (1 : Int32) from rfl]
      refine hq_F.st (s' := (15, _, _, _)) hj276_14 rfl rfl rfl rfl ?_
      refine hq_F.st (s' := (16, _, _, _)) hj276_15 rfl rfl rfl (hs_al (hg_nr (hg_nr g0 (by decide)) (by decide))) ?_
      refine hq_F.call hj276_16 rfl rfl si_11_436 (by decide) (by decide) sz_275 (sy_argsV h.1 sh_61 rfl rfl rfl (Nat.le_of_ble_eq_true rfl) rfl (Nat.le_of_ble_eq_true rfl) rfl (by decide)) (sm_leaf (d := d + 1) h) (fun _ _ q => by rw [q.1]) ?_
      rintro r16 w ⟨rfl, v, rfl, hv⟩
      try dsimp only
      refine hq_F.st (s' := (20, _, _, _)) hj276_19 rfl rfl rfl rfl ?_
      refine hq_F.st (s' := (21, _, _, _)) hj276_20 rfl rfl rfl (hs_iln (hg_ne (hg_ne (pi_get_set _ _ _) (by decide)) (by decide))) ?_
      refine hq_F.st (s' := (24, _, _, _)) hj276_21 rfl rfl rfl (hs_ifn (t := 38) (ci_nen (by omega)) rfl) ?_
      refine hq_F.st (s' := (25, _, _, _)) hj276_24 rfl rfl rfl (hs_iln (hg_ne (pi_get_set _ _ _) (by decide))) ?_
      refine hq_F.st (s' := (38, _, _, _)) hj276_25 rfl rfl rfl (hs_if (ci_ne (by omega)) rfl) ?_
      refine hq_F.st (s' := (39, _, _, _)) hj276_38 rfl rfl rfl (hs_al (hg_nr (hg_nr (hg_nr g0 (by decide)) (by decide)) (by decide))) ?_
      refine hq_F.st (s' := (42, _, _, _)) hj276_39 rfl rfl rfl (hq_gf h.1 sh_61 sk_11_439 (sy_v h.1 (by decide) rfl)) ?_
      refine hq_F.st (s' := (44, _, _, _)) hj276_42 rfl rfl rfl rfl ?_
      have o20 := a2
      by_cases b44 : ((gv w 61 37)).toInt = 20
      · skip
        refine hq_F.st (s' := (56, _, _, _)) hj276_44 rfl rfl rfl (hs_ic (ci_eq (by omega)) rfl) ?_
        refine hq_F.st (s' := (57, _, _, _)) hj276_56 rfl rfl rfl (hs_al (hg_nr (hg_nr (hg_nr g0 (by decide)) (by decide)) (by decide))) ?_
        refine hq_F.st (s' := (58, _, _, _)) hj276_57 rfl rfl rfl rfl ?_
        refine hq_F.call hj276_58 rfl rfl si_11_178 (by decide) (by decide) sz_177 (sy_argsV h.1 sh_61 rfl rfl rfl (Nat.le_of_ble_eq_true rfl) rfl (Nat.le_of_ble_eq_true rfl) rfl (by decide)) (mt_bad h ((Int32.ofInt 4))) (fun _ _ q => by rw [q.2.1.1.1, h.1.1]) ?_
        rintro r58 w9 ⟨rfl, k1, k2, k3, k4⟩
        try dsimp only
        refine hq_F.en hj276_61 rfl rfl ?_
        exact ⟨k1.1, k2.cov (by decide), Or.inr ⟨rfl, 4, t.2.1, by unfold sn_one; rw [if_neg (by intro q; exact absurd q.1 (by rw [hop]; decide))]; exact if_pos (by omega), by rw [k3]; decide, k4⟩⟩
      · skip
        refine hq_F.st (s' := (47, _, _, _)) hj276_44 rfl rfl rfl (hs_icn (t := 56) (ci_eqn (by omega)) rfl) ?_
        refine hq_F.st (s' := (48, _, _, _)) hj276_47 rfl rfl rfl (hs_al (hg_nr (hg_nr (hg_nr g0 (by decide)) (by decide)) (by decide))) ?_
        refine hq_F.st (s' := (51, _, _, _)) hj276_48 rfl rfl rfl (hq_gf h.1 sh_61 sk_11_433 (sy_v h.1 (by decide) rfl)) ?_
        refine hq_F.st (s' := (53, _, _, _)) hj276_51 rfl rfl rfl rfl ?_
        have d8 := a4
        by_cases b53 : ((gv w 61 39)).toInt ≤ 8
        · skip
          refine hq_F.st (s' := (62, _, _, _)) hj276_53 rfl rfl rfl (hs_ic (ci_le (by omega)) rfl) ?_
          refine hq_F.st (s' := (63, _, _, _)) hj276_62 rfl rfl rfl (hs_al (hg_nr (hg_nr (hg_nr g0 (by decide)) (by decide)) (by decide))) ?_
          refine hq_F.st (s' := (64, _, _, _)) hj276_63 rfl rfl rfl rfl ?_
          refine hq_F.st (s' := (67, _, _, _)) hj276_64 rfl rfl rfl (hq_gf h.1 sh_61 sk_11_439 (sy_v h.1 (by decide) rfl)) ?_
          rw [show gv w 61 37 = Int32.ofNat n from hn_e a2 (by omega)]
          refine hq_F.st (s' := (68, _, _, _)) hj276_67 rfl rfl rfl rfl ?_
          refine hq_F.st (s' := (69, _, _, _)) hj276_68 rfl rfl rfl rfl ?_
          rw [hn_s]
          have tn1 : (Int32.ofNat (n + 1)).toInt = ((n + 1 : Nat) : Int) := hn_t (by omega)
          refine sy_pf hj276_69 h.1 sh_61 sk_11_439 (lo := 0) (hi := 20) rfl (by omega) rfl rfl rfl (fun w21 hC21 hw21 => ?_)
          have h2t : 2 ≤ t.1 := by have := of_decide_eq_true hop; omega
          refine hq_F.st (s' := (73, _, _, _)) hj276_72 rfl rfl rfl (hs_al (hg_nr (hg_nr (hg_nr g0 (by decide)) (by decide)) (by decide))) ?_
          refine hq_F.call hj276_73 rfl rfl si_11_181 (by decide) (by decide) sz_176 (sy_argsV hC21 sh_61 rfl rfl rfl (Nat.le_of_ble_eq_true rfl) rfl (Nat.le_of_ble_eq_true rfl) rfl (by decide)) (mt_adv (d := d + 1) (h.fr hC21 (wpF hw21) rfl) h2t) (fun _ _ q => by rw [q.2.1.1.1, hC21.1]) ?_
          rintro r73 w2 ⟨rfl, h2, F2⟩
          try dsimp only
          refine hq_F.st (s' := (77, _, _, _)) hj276_76 rfl rfl rfl (hs_iln (hg_ne (hg_ne (pi_get_set _ _ _) (by decide)) (by decide))) ?_
          refine hq_F.st (s' := (80, _, _, _)) hj276_77 rfl rfl rfl (hs_ifn (t := 84) (ci_nen (by omega)) rfl) ?_
          refine hq_F.st (s' := (81, _, _, _)) hj276_80 rfl rfl rfl (hs_iln (hg_ne (pi_get_set _ _ _) (by decide))) ?_
          refine hq_F.st (s' := (84, _, _, _)) hj276_81 rfl rfl rfl (hs_ifn (t := 126) (ci_eqn (by omega)) rfl) ?_
          refine hq_F.st (s' := (85, _, _, _)) hj276_84 rfl rfl rfl (hs_al (hg_nr (hg_nr (hg_nr g0 (by decide)) (by decide)) (by decide))) ?_
          refine hq_F.st (s' := (88, _, _, _)) hj276_85 rfl rfl rfl (hq_gf h2.1 sh_61 sk_11_68 (hq_ref h2.1 sh_61 (b := 74) rfl)) ?_
          refine hq_F.st (s' := (89, _, _, _)) hj276_88 rfl rfl rfl (hs_al (hg_nr (hg_nr (hg_nr g0 (by decide)) (by decide)) (by decide))) ?_
          refine hq_F.st (s' := (92, _, _, _)) hj276_89 rfl rfl rfl (hq_gf h2.1 sh_61 sk_11_427 (sy_v h2.1 (by decide) rfl)) ?_
          rw [show gv w2 61 38 = Int32.ofNat S.length from by rw [gv_eq (F2 61 38 (by decide)), wpv hw21, if_neg (by decide)]; exact hn_e a3 (by omega)]
          refine hq_F.st (s' := (93, _, _, _)) hj276_92 rfl rfl rfl (hs_iln (hg_ne (hg_ne (pi_get_set _ _ _) (by decide)) (by decide))) ?_
          refine hq_F.st (s' := (101, _, _, _)) hj276_93 rfl rfl rfl (hs_if (ci_eq (by omega)) rfl) ?_
          refine hq_F.st (s' := (103, _, _, _)) hj276_101 rfl rfl rfl rfl ?_
          refine sy_isv hj276_103 h2.1 sh_74 (n := S.length) (hn_t (by omega)) (by omega) (sy_full (sb_74 _ (by omega))) (fun w3 hC3 hw3 => ?_)
          refine hq_F.st (s' := (105, _, _, _)) hj276_104 rfl rfl rfl (hs_al (hg_nr (hg_nr (hg_nr g0 (by decide)) (by decide)) (by decide))) ?_
          refine hq_F.st (s' := (106, _, _, _)) hj276_105 rfl rfl rfl rfl ?_
          refine hq_F.st (s' := (109, _, _, _)) hj276_106 rfl rfl rfl (hq_gf hC3 sh_61 sk_11_427 (sy_v hC3 (by decide) rfl)) ?_
          rw [show gv w3 61 38 = Int32.ofNat S.length from by rw [wpv hw3, if_neg (by omega), gv_eq (F2 61 38 (by decide)), wpv hw21, if_neg (by decide)]; exact hn_e a3 (by omega)]
          refine hq_F.st (s' := (110, _, _, _)) hj276_109 rfl rfl rfl rfl ?_
          refine hq_F.st (s' := (111, _, _, _)) hj276_110 rfl rfl rfl rfl ?_
          rw [hn_s]
          have tl1 : (Int32.ofNat (S.length + 1)).toInt = ((S.length + 1 : Nat) : Int) := hn_t (by omega)
          refine sy_pf hj276_111 hC3 sh_61 sk_11_427 (lo := 0) (hi := 45) rfl (by omega) rfl rfl rfl (fun w23 hC23 hw23 => ?_)
          refine hq_F.st (s' := (115, _, _, _)) hj276_114 rfl rfl rfl (hs_al (hg_nr (hg_nr (hg_nr g0 (by decide)) (by decide)) (by decide))) ?_
          refine hq_F.st (s' := (116, _, _, _)) hj276_115 rfl rfl rfl rfl ?_
          refine hq_F.st (s' := (119, _, _, _)) hj276_116 rfl rfl rfl (hq_gf hC23 sh_61 sk_11_433 (sy_v hC23 (by decide) rfl)) ?_
          have q116 : (gv w23 61 39).toInt = (gv w3 61 39).toInt := by rw [wpv hw23, if_neg (by decide)]
          rw [show gv w23 61 39 = Int32.ofNat (K.length + 1) from by rw [wpv hw23, if_neg (by decide), wpv hw3, if_neg (by omega), gv_eq (F2 61 39 (by decide)), wpv hw21, if_neg (by decide)]; exact hn_e a4 (by omega)]
          refine hq_F.st (s' := (120, _, _, _)) hj276_119 rfl rfl rfl rfl ?_
          refine hq_F.st (s' := (121, _, _, _)) hj276_120 rfl rfl rfl rfl ?_
          rw [hn_s]
          have td1 : (Int32.ofNat (K.length + 1 + 1)).toInt = ((K.length + 1 + 1 : Nat) : Int) := hn_t (by omega)
          refine sy_pf hj276_121 hC23 sh_61 sk_11_433 (lo := -2147483648) (hi := 2147483647) rfl (af_i32 _) rfl rfl rfl (fun w24 hC24 hw24 => ?_)
          refine hq_F.st (s' := (125, _, _, _)) hj276_124 rfl rfl rfl rfl ?_
          refine hq_F.en hj276_125 rfl rfl ?_
          refine ⟨hC24, ((wpF hw21).cov (by decide)).tr ((F2.cov (by decide)).tr (((hq_fr1 (lo := 0) (hi := 45) hw3 (by omega)).cov (by decide)).tr (((wpF hw23).cov (by decide)).tr ((wpF hw24).cov (by decide))))), Or.inl ⟨rfl, by rw [wpv hw24, if_neg (by decide), wpv hw23, if_neg (by decide), wpv hw3, if_neg (by omega), gv_eq (F2 61 15 (by decide)), wpv hw21, if_neg (by decide)], false, true :: K, n + 1, (tq_nx tp B 200 t), ?_, ((h2.fr hC3 (wpF hw3) rfl).fr hC23 (wpF hw23) rfl).fr hC24 (wpF hw24) rfl, ?_, c, 23 :: S, ?_, ?_, ?_, ?_, ?_, ?_, ?_, ?_, by omega⟩⟩
          · unfold sn_one; rw [if_neg (by intro q; exact absurd q.1 (by rw [hop]; decide)), if_neg (by omega)]; exact if_pos hop
          · rw [wpv hw24, if_neg (by decide), wpv hw23, if_neg (by decide), wpv hw3, if_neg (by omega), gv_eq (F2 61 40 (by decide)), wpv hw21, if_neg (by decide)]; exact hwh
          · rw [wpv hw24, if_neg (by decide), wpv hw23, if_neg (by decide), wpv hw3, if_neg (by omega), gv_eq (F2 61 36 (by decide)), wpv hw21, if_neg (by decide)]; exact a1
          · rw [wpv hw24, if_neg (by decide), wpv hw23, if_neg (by decide), wpv hw3, if_neg (by omega), gv_eq (F2 61 37 (by decide)), wpv hw21, if_pos ⟨rfl, rfl⟩]; exact tn1
          · rw [wpv hw24, if_neg (by decide), wpv hw23, if_pos ⟨rfl, rfl⟩]; exact tl1
          · rw [wpv hw24, if_pos ⟨rfl, rfl⟩]; exact td1
          · have q3 : sK w3 (23 :: S) := ⟨by rw [wpv hw3, if_pos ⟨rfl, rfl⟩]; rfl, ((a5.fr (wpF hw21) (by decide)).fr F2 (by decide)).put hw3 (Nat.le_refl _)⟩
            exact (q3.fr (wpF hw23) (by decide)).fr (wpF hw24) (by decide)
          · rw [sF, if_neg (by decide), if_pos rfl, a6]
          · exact ⟨by decide, fun q => absurd q (by decide), a7⟩
          · show c + (S.length + 1) + 0 ≤ 2 * (n + 1); omega
        · skip
          refine hq_F.st (s' := (56, _, _, _)) hj276_53 rfl rfl rfl (hs_icn (t := 62) (ci_len (by omega)) rfl) ?_
          refine hq_F.st (s' := (57, _, _, _)) hj276_56 rfl rfl rfl (hs_al (hg_nr (hg_nr (hg_nr g0 (by decide)) (by decide)) (by decide))) ?_
          refine hq_F.st (s' := (58, _, _, _)) hj276_57 rfl rfl rfl rfl ?_
          refine hq_F.call hj276_58 rfl rfl si_11_178 (by decide) (by decide) sz_177 (sy_argsV h.1 sh_61 rfl rfl rfl (Nat.le_of_ble_eq_true rfl) rfl (Nat.le_of_ble_eq_true rfl) rfl (by decide)) (mt_bad h ((Int32.ofInt 4))) (fun _ _ q => by rw [q.2.1.1.1, h.1.1]) ?_
          rintro r58 w9 ⟨rfl, k1, k2, k3, k4⟩
          try dsimp only
          refine hq_F.en hj276_61 rfl rfl ?_
          exact ⟨k1.1, k2.cov (by decide), Or.inr ⟨rfl, 4, t.2.1, by unfold sn_one; rw [if_neg (by intro q; exact absurd q.1 (by rw [hop]; decide))]; exact if_pos (by omega), by rw [k3]; decide, k4⟩⟩
