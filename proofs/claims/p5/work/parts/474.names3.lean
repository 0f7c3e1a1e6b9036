/-! ===== first and new NAMES; by program ===== -/
theorem sk_11_37 : pi_look pi_fT 11 37 = some (11, 7, 1254) := rfl
theorem sk_3_15 : pi_look pi_fT 3 15 = some (3, 1, 242) := rfl
theorem sk_3_84 : pi_look pi_fT 3 84 = some (2, 0, 227) := rfl
theorem sk_3_9 : pi_look pi_fT 3 9 = some (3, 0, 241) := rfl
theorem sk_3_95 : pi_look pi_fT 3 95 = some (9, 8, 181) := rfl
theorem si_3_103 : pi_look pi_iT 3 103 = some (2, 14, 2, 541) := rfl
theorem si_3_68 : pi_look pi_iT 3 68 = some (2, 98, 0, 527) := rfl
theorem si_3_80 : pi_look pi_iT 3 80 = some (2, 103, 1, 523) := rfl
theorem si_3_88 : pi_look pi_iT 3 88 = some (1, 159, 2, 520) := rfl
theorem si_3_92 : pi_look pi_iT 3 92 = some (2, 107, 0, 532) := rfl
theorem si_3_99 : pi_look pi_iT 3 99 = some (2, 12, 1, 536) := rfl

theorem NC.fr {w w' : pi_W} {fa na : Nat} {NT : List nt_E} {N : af_M} (h : NC w fa na NT) (hF : af_Fr N w w') (h1 : ∀ e ∈ N, e.1 ≠ fa) (h2 : ∀ e ∈ N, e.1 ≠ na) : NC w' fa na NT := by
  refine ⟨by rw [gv_eq (hq_cell hF h1)]; exact h.1, h.2.1, fun i e he => ?_⟩
  have q := h.2.2 i e he
  rw [gl_eq (hq_cell hF h2), gv_eq (hq_cell hF h1), gv_eq (hq_cell hF h1)]
  exact q
theorem nt_t_f {NT : List nt_E} {u : List Nat} (ho : nt_ok NT) : nt_t NT u = true ↔ (0 ≤ nt_f NT 0 u ∨ 0 ≤ nt_f NT 2 u ∨ 0 ≤ nt_f NT 3 u ∨ 0 ≤ nt_f NT 4 u) := by
  have back : ∀ s, 0 ≤ nt_f NT s u → nt_t NT u = true := by
    intro s h
    unfold nt_f at h
    cases hf : NT.find? (nt_p s u) with
    | none => rw [hf] at h; exact absurd h (by decide)
    | some e =>
      have h1 := List.find?_some hf
      have h2 := List.mem_of_find?_eq_some hf
      unfold nt_p at h1
      simp only [Bool.and_eq_true, decide_eq_true_eq] at h1
      exact List.any_eq_true.mpr ⟨e, h2, decide_eq_true h1.1⟩
  constructor
  · intro h
    obtain ⟨e, he, hq⟩ := List.any_eq_true.mp h
    have hq := of_decide_eq_true hq
    have hs := (ho.1 e he).2.1
    rcases hs with hs | hs | hs | hs
    · exact Or.inl (by rw [nt_f_some ho he hs hq]; omega)
    · exact Or.inr (Or.inl (by rw [nt_f_some ho he hs hq]; omega))
    · exact Or.inr (Or.inr (Or.inl (by rw [nt_f_some ho he hs hq]; omega)))
    · exact Or.inr (Or.inr (Or.inr (by rw [nt_f_some ho he hs hq]; omega)))
  · rintro (h | h | h | h) <;> exact back _ h
theorem mn_fr {d B M b : Nat} {tp : Nat → Nat} {w : pi_W} {t : tq_T} {NT : List nt_E} {x : Int32} (h : MT tp B M w t) (hN : NM w 27 NT) (ho : nt_ok NT) (hc : ∀ s, s = 0 ∨ s = 2 ∨ s = 3 ∨ s = 4 → (gv w 64 s).toInt = (nt_c s NT : Int)) (hmx : nt_c 0 NT ≤ 10 ∧ nt_c 2 NT ≤ 5 ∧ nt_c 3 NT ≤ 6 ∧ nt_c 4 NT ≤ 6) (hx : x = Int32.ofNat b) (hb : b < 54) : hq_F (d + 2) sm185 (fun r w' => (r = some (.int 1) ∧ (t.1 = 2 ∧ tq_kx t.2.2.2.1 = -1) ∧ nt_t NT t.2.2.2.1 = false ∧ MT tp B M w' (tq_nx tp B M t) ∧ af_Fr [(61, 4, 5), (61, 11, 15), (61, 17, 18), (66, b, b + 1)] w w' ∧ gl w' 66 b = Int64.ofNat (tq_c256 t.2.2.2.1)) ∨ (r = some (.int 0) ∧ MT tp B M w' t ∧ af_Fr [(61, 15, 17)] w w' ∧ ((¬ (t.1 = 2 ∧ tq_kx t.2.2.2.1 = -1) ∧ FM w' 1 t.2.1) ∨ ((t.1 = 2 ∧ tq_kx t.2.2.2.1 = -1) ∧ nt_t NT t.2.2.2.1 = true ∧ FM w' 3 t.2.1)))) (0, lv_args 0 [.ref 61, .int x], [], w) := by
  obtain ⟨hC, hP, hM, hV, ⟨f1, f2, f3, f4, f6⟩, hW1, hW2, hW3⟩ := id h
  have hm := tq_mk_c hW2 f1
  have g0 : pi_get (lv_args 0 [.ref 61, .int x]) 0 = some (.ref 61) := rfl
  have g1 : pi_get (lv_args 0 [.ref 61, .int x]) 1 = some (.int x) := rfl
  have kc0 : (((Int8.ofInt 27).toInt32)).toInt = 27 := by decide
  have kc1 : (((Int8.ofInt 37).toInt32)).toInt = 37 := by decide
  have kc2 : (((Int8.ofInt 42).toInt32)).toInt = 42 := by decide
  have kc3 : (((Int8.ofInt 48).toInt32)).toInt = 48 := by decide
  have kc4 : ((0 : Int32)).toInt = 0 := by decide
  have kc5 : ((1 : Int32)).toInt = 1 := by decide
  have kc6 : ((Int32.ofInt 0)).toInt = 0 := by decide
  have kc7 : ((Int32.ofInt 1)).toInt = 1 := by decide
  have kc8 : ((Int32.ofInt 2)).toInt = 2 := by decide
  have kc9 : ((Int32.ofInt 3)).toInt = 3 := by decide
  have kc10 : ((Int32.ofInt 4)).toInt = 4 := by decide
  have kz := sy_z0
  refine hq_F.st (s' := (1, _, _, _)) hg185_0 rfl rfl rfl (hs_al g0) ?_
  refine hq_F.call hg185_1 rfl rfl si_11_195 (by decide) (by decide) sz_181 (sy_argsV hC sh_61 rfl rfl rfl (Nat.le_of_ble_eq_true rfl) rfl (Nat.le_of_ble_eq_true rfl) rfl (by decide)) (mt_isN h) (fun _ _ q => by rw [q.1]) ?_
  rintro r1 w ⟨rfl, rfl⟩
  try dsimp only
  by_cases hs : t.1 = 2 ∧ tq_kx t.2.2.2.1 = -1
  · rw [decide_eq_true hs, show tq_b true = (1 : Int32) from rfl]
    refine hq_F.st (s' := (13, _, _, _)) hg185_4 rfl rfl rfl (hs_if (ci_ne (by omega)) rfl) ?_
    have h2 := hs.1
    have hu : nt_w t.2.2.2.1 := hW3 h2
    refine hq_F.st (s' := (14, _, _, _)) hg185_13 rfl rfl rfl (hs_al g0) ?_
    refine hq_F.st (s' := (16, _, _, _)) hg185_14 rfl rfl rfl rfl ?_
    refine hq_F.st (s' := (17, _, _, _)) hg185_16 rfl rfl rfl (hs_al g0) ?_
    refine hq_F.st (s' := (20, _, _, _)) hg185_17 rfl rfl rfl (hq_gf hC sh_61 sk_11_37 (hq_ref hC sh_61 (b := 64) rfl)) ?_
    refine hq_F.st (s' := (21, _, _, _)) hg185_20 rfl rfl rfl rfl ?_
    refine hq_F.st (s' := (22, _, _, _)) hg185_21 rfl rfl rfl (sy_iav hC sh_64 (n := 0) (by decide) (by decide)) ?_
    refine hq_F.call hg185_22 rfl rfl si_11_199 (by decide) (by decide) sz_184 (sy_argsV hC sh_61 rfl rfl rfl (Nat.le_of_ble_eq_true rfl) rfl (Nat.le_of_ble_eq_true rfl) rfl (by decide)) (mn_f (off := 27) (s := 0) hC hN ho hu (f4 h2) (by decide) (hc 0 (Or.inl rfl)) (by show 27 + 0 + nt_c 0 NT ≤ 54; omega)) (fun _ _ q => by rw [q.1]) ?_
    rintro r22 w ⟨rfl, v0, rfl, hv0⟩
    try dsimp only
    by_cases b25 : 0 ≤ (v0).toInt
    · skip
      refine hq_F.st (s' := (73, _, _, _)) hg185_25 rfl rfl rfl (hs_if (ci_ge (by omega)) rfl) ?_
      refine hq_F.st (s' := (74, _, _, _)) hg185_73 rfl rfl rfl (hs_al g0) ?_
      refine hq_F.st (s' := (75, _, _, _)) hg185_74 rfl rfl rfl rfl ?_
      refine hq_F.call hg185_75 rfl rfl si_11_178 (by decide) (by decide) sz_177 (sy_argsV hC sh_61 rfl rfl rfl (Nat.le_of_ble_eq_true rfl) rfl (Nat.le_of_ble_eq_true rfl) rfl (by decide)) (mt_bad h ((Int32.ofInt 3))) (fun _ _ q => by rw [q.2.1.1.1, hC.1]) ?_
      rintro r75 w9 ⟨rfl, k1, k2, k3, k4⟩
      try dsimp only
      refine hq_F.en hg185_78 rfl rfl ?_
      exact Or.inr ⟨rfl, k1, k2, Or.inr ⟨hs, (nt_t_f ho).mpr (by omega), by rw [k3]; decide, k4⟩⟩
    · skip
      refine hq_F.st (s' := (28, _, _, _)) hg185_25 rfl rfl rfl (hs_ifn (t := 73) (ci_gen (by omega)) rfl) ?_
      refine hq_F.st (s' := (29, _, _, _)) hg185_28 rfl rfl rfl (hs_al g0) ?_
      refine hq_F.st (s' := (31, _, _, _)) hg185_29 rfl rfl rfl rfl ?_
      refine hq_F.st (s' := (32, _, _, _)) hg185_31 rfl rfl rfl (hs_al g0) ?_
      refine hq_F.st (s' := (35, _, _, _)) hg185_32 rfl rfl rfl (hq_gf hC sh_61 sk_11_37 (hq_ref hC sh_61 (b := 64) rfl)) ?_
      refine hq_F.st (s' := (36, _, _, _)) hg185_35 rfl rfl rfl rfl ?_
      refine hq_F.st (s' := (37, _, _, _)) hg185_36 rfl rfl rfl (sy_iav hC sh_64 (n := 2) (by decide) (by decide)) ?_
      refine hq_F.call hg185_37 rfl rfl si_11_199 (by decide) (by decide) sz_184 (sy_argsV hC sh_61 rfl rfl rfl (Nat.le_of_ble_eq_true rfl) rfl (Nat.le_of_ble_eq_true rfl) rfl (by decide)) (mn_f (off := 27) (s := 2) hC hN ho hu (f4 h2) (by decide) (hc 2 (Or.inr (Or.inl rfl))) (by show 27 + 10 + nt_c 2 NT ≤ 54; omega)) (fun _ _ q => by rw [q.1]) ?_
      rintro r37 w ⟨rfl, v2, rfl, hv2⟩
      try dsimp only
      by_cases b40 : 0 ≤ (v2).toInt
      · skip
        refine hq_F.st (s' := (73, _, _, _)) hg185_40 rfl rfl rfl (hs_if (ci_ge (by omega)) rfl) ?_
        refine hq_F.st (s' := (74, _, _, _)) hg185_73 rfl rfl rfl (hs_al g0) ?_
        refine hq_F.st (s' := (75, _, _, _)) hg185_74 rfl rfl rfl rfl ?_
        refine hq_F.call hg185_75 rfl rfl si_11_178 (by decide) (by decide) sz_177 (sy_argsV hC sh_61 rfl rfl rfl (Nat.le_of_ble_eq_true rfl) rfl (Nat.le_of_ble_eq_true rfl) rfl (by decide)) (mt_bad h ((Int32.ofInt 3))) (fun _ _ q => by rw [q.2.1.1.1, hC.1]) ?_
        rintro r75 w9 ⟨rfl, k1, k2, k3, k4⟩
        try dsimp only
        refine hq_F.en hg185_78 rfl rfl ?_
        exact Or.inr ⟨rfl, k1, k2, Or.inr ⟨hs, (nt_t_f ho).mpr (by omega), by rw [k3]; decide, k4⟩⟩
      · skip
        refine hq_F.st (s' := (43, _, _, _)) hg185_40 rfl rfl rfl (hs_ifn (t := 73) (ci_gen (by omega)) rfl) ?_
        refine hq_F.st (s' := (44, _, _, _)) hg185_43 rfl rfl rfl (hs_al g0) ?_
        refine hq_F.st (s' := (46, _, _, _)) hg185_44 rfl rfl rfl rfl ?_
        refine hq_F.st (s' := (47, _, _, _)) hg185_46 rfl rfl rfl (hs_al g0) ?_
        refine hq_F.st (s' := (50, _, _, _)) hg185_47 rfl rfl rfl (hq_gf hC sh_61 sk_11_37 (hq_ref hC sh_61 (b := 64) rfl)) ?_
        refine hq_F.st (s' := (51, _, _, _)) hg185_50 rfl rfl rfl rfl ?_
        refine hq_F.st (s' := (52, _, _, _)) hg185_51 rfl rfl rfl (sy_iav hC sh_64 (n := 3) (by decide) (by decide)) ?_
        refine hq_F.call hg185_52 rfl rfl si_11_199 (by decide) (by decide) sz_184 (sy_argsV hC sh_61 rfl rfl rfl (Nat.le_of_ble_eq_true rfl) rfl (Nat.le_of_ble_eq_true rfl) rfl (by decide)) (mn_f (off := 27) (s := 3) hC hN ho hu (f4 h2) (by decide) (hc 3 (Or.inr (Or.inr (Or.inl rfl)))) (by show 27 + 15 + nt_c 3 NT ≤ 54; omega)) (fun _ _ q => by rw [q.1]) ?_
        rintro r52 w ⟨rfl, v3, rfl, hv3⟩
        try dsimp only
        by_cases b55 : 0 ≤ (v3).toInt
        · skip
          refine hq_F.st (s' := (73, _, _, _)) hg185_55 rfl rfl rfl (hs_if (ci_ge (by omega)) rfl) ?_
          refine hq_F.st (s' := (74, _, _, _)) hg185_73 rfl rfl rfl (hs_al g0) ?_
          refine hq_F.st (s' := (75, _, _, _)) hg185_74 rfl rfl rfl rfl ?_
          refine hq_F.call hg185_75 rfl rfl si_11_178 (by decide) (by decide) sz_177 (sy_argsV hC sh_61 rfl rfl rfl (Nat.le_of_ble_eq_true rfl) rfl (Nat.le_of_ble_eq_true rfl) rfl (by decide)) (mt_bad h ((Int32.ofInt 3))) (fun _ _ q => by rw [q.2.1.1.1, hC.1]) ?_
          rintro r75 w9 ⟨rfl, k1, k2, k3, k4⟩
          try dsimp only
          refine hq_F.en hg185_78 rfl rfl ?_
          exact Or.inr ⟨rfl, k1, k2, Or.inr ⟨hs, (nt_t_f ho).mpr (by omega), by rw [k3]; decide, k4⟩⟩
        · skip
          refine hq_F.st (s' := (58, _, _, _)) hg185_55 rfl rfl rfl (hs_ifn (t := 73) (ci_gen (by omega)) rfl) ?_
          refine hq_F.st (s' := (59, _, _, _)) hg185_58 rfl rfl rfl (hs_al g0) ?_
          refine hq_F.st (s' := (61, _, _, _)) hg185_59 rfl rfl rfl rfl ?_
          refine hq_F.st (s' := (62, _, _, _)) hg185_61 rfl rfl rfl (hs_al g0) ?_
          refine hq_F.st (s' := (65, _, _, _)) hg185_62 rfl rfl rfl (hq_gf hC sh_61 sk_11_37 (hq_ref hC sh_61 (b := 64) rfl)) ?_
          refine hq_F.st (s' := (66, _, _, _)) hg185_65 rfl rfl rfl rfl ?_
          refine hq_F.st (s' := (67, _, _, _)) hg185_66 rfl rfl rfl (sy_iav hC sh_64 (n := 4) (by decide) (by decide)) ?_
          refine hq_F.call hg185_67 rfl rfl si_11_199 (by decide) (by decide) sz_184 (sy_argsV hC sh_61 rfl rfl rfl (Nat.le_of_ble_eq_true rfl) rfl (Nat.le_of_ble_eq_true rfl) rfl (by decide)) (mn_f (off := 27) (s := 4) hC hN ho hu (f4 h2) (by decide) (hc 4 (Or.inr (Or.inr (Or.inr rfl)))) (by show 27 + 21 + nt_c 4 NT ≤ 54; omega)) (fun _ _ q => by rw [q.1]) ?_
          rintro r67 w ⟨rfl, v4, rfl, hv4⟩
          try dsimp only
          by_cases b70 : (v4).toInt < 0
          · skip
            refine hq_F.st (s' := (79, _, _, _)) hg185_70 rfl rfl rfl (hs_if (ci_lt (by omega)) rfl) ?_
            refine hq_F.st (s' := (80, _, _, _)) hg185_79 rfl rfl rfl (hs_al g0) ?_
            refine hq_F.st (s' := (83, _, _, _)) hg185_80 rfl rfl rfl (hq_gf hC sh_61 sk_11_43 (hq_ref hC sh_61 (b := 66) rfl)) ?_
            refine hq_F.st (s' := (84, _, _, _)) hg185_83 rfl rfl rfl (hs_iln g1) ?_
            refine hq_F.st (s' := (85, _, _, _)) hg185_84 rfl rfl rfl (hs_al g0) ?_
            refine hq_F.st (s' := (88, _, _, _)) hg185_85 rfl rfl rfl (hq_gf hC sh_61 sk_11_165 (sy_vl hC sh_61 rfl)) ?_
            refine sy_lsv hg185_88 hC sh_66 (n := b) (by rw [hx]; exact hn_t (by omega)) (by omega) (fun w1 hC1 hw1 => ?_)
            refine hq_F.st (s' := (90, _, _, _)) hg185_89 rfl rfl rfl (hs_al g0) ?_
            refine hq_F.call hg185_90 rfl rfl si_11_181 (by decide) (by decide) sz_176 (sy_argsV hC1 sh_61 rfl rfl rfl (Nat.le_of_ble_eq_true rfl) rfl (Nat.le_of_ble_eq_true rfl) rfl (by decide)) (mt_adv (d := d) (h.fr hC1 (wpF hw1) rfl) (by omega)) (fun _ _ q => by rw [q.2.1.1.1, hC1.1]) ?_
            rintro r90 w8 ⟨rfl, k1, k2⟩
            try dsimp only
            refine hq_F.st (s' := (94, _, _, _)) hg185_93 rfl rfl rfl rfl ?_
            refine hq_F.en hg185_94 rfl rfl ?_
            have hno : nt_t NT t.2.2.2.1 = false := by
              rw [Bool.eq_false_iff]
              intro q
              have := (nt_t_f ho).mp q
              omega
            refine Or.inl ⟨rfl, hs, hno, k1, (hq_fr (wpF hw1) (fun c i hc => by unfold af_cov at *; simp only [List.any_cons, List.any_nil, Bool.or_false, Bool.or_eq_true, Bool.and_eq_true, beq_iff_eq, Nat.ble_eq, Nat.blt_eq] at *; omega)).tr (hq_fr k2 (fun c i hc => by unfold af_cov at *; simp only [List.any_cons, List.any_nil, Bool.or_false, Bool.or_eq_true, Bool.and_eq_true, beq_iff_eq, Nat.ble_eq, Nat.blt_eq] at *; omega)), ?_⟩
            rw [gl_eq (k2 66 b (by unfold af_cov; simp)), wpl hw1, if_pos ⟨rfl, rfl⟩]
            exact f4 h2
          · skip
            refine hq_F.st (s' := (73, _, _, _)) hg185_70 rfl rfl rfl (hs_ifn (t := 79) (ci_ltn (by omega)) rfl) ?_
            refine hq_F.st (s' := (74, _, _, _)) hg185_73 rfl rfl rfl (hs_al g0) ?_
            refine hq_F.st (s' := (75, _, _, _)) hg185_74 rfl rfl rfl rfl ?_
            refine hq_F.call hg185_75 rfl rfl si_11_178 (by decide) (by decide) sz_177 (sy_argsV hC sh_61 rfl rfl rfl (Nat.le_of_ble_eq_true rfl) rfl (Nat.le_of_ble_eq_true rfl) rfl (by decide)) (mt_bad h ((Int32.ofInt 3))) (fun _ _ q => by rw [q.2.1.1.1, hC.1]) ?_
            rintro r75 w9 ⟨rfl, k1, k2, k3, k4⟩
            try dsimp only
            refine hq_F.en hg185_78 rfl rfl ?_
            exact Or.inr ⟨rfl, k1, k2, Or.inr ⟨hs, (nt_t_f ho).mpr (by omega), by rw [k3]; decide, k4⟩⟩
  · rw [decide_eq_false hs, show tq_b false = (0 : Int32) from rfl]
    refine hq_F.st (s' := (7, _, _, _)) hg185_4 rfl rfl rfl (hs_ifn (t := 13) (ci_nen (by omega)) rfl) ?_
    refine hq_F.st (s' := (8, _, _, _)) hg185_7 rfl rfl rfl (hs_al g0) ?_
    refine hq_F.st (s' := (9, _, _, _)) hg185_8 rfl rfl rfl rfl ?_
    refine hq_F.call hg185_9 rfl rfl si_11_178 (by decide) (by decide) sz_177 (sy_argsV hC sh_61 rfl rfl rfl (Nat.le_of_ble_eq_true rfl) rfl (Nat.le_of_ble_eq_true rfl) rfl (by decide)) (mt_bad h ((Int32.ofInt 1))) (fun _ _ q => by rw [q.2.1.1.1, hC.1]) ?_
    rintro r9 w9 ⟨rfl, k1, k2, k3, k4⟩
    try dsimp only
    refine hq_F.en hg185_12 rfl rfl ?_
    exact Or.inr ⟨rfl, k1, k2, Or.inl ⟨hs, by rw [k3]; decide, k4⟩⟩
theorem cl_tf {d B M s c m : Nat} {tp : Nat → Nat} {w : pi_W} {t : tq_T} {z : Int32} (h : CT tp B M w t) (h2 : 2 ≤ t.1) (hs : s < 5) (hc : (gv w 8 s).toInt = (c : Int)) (hz : z.toInt = (m : Int)) : hq_F (d + 3) sm23 (fun r w' => (r = some (.int 1) ∧ c < m ∧ CT tp B M w' (tq_nx tp B M t) ∧ af_Fr [(1, 4, 10)] w w') ∨ (r = some (.int 0) ∧ ¬ c < m ∧ CT tp B M w' t ∧ af_Fr [(1, 10, 12)] w w' ∧ FC w' 4 t.2.1)) (0, lv_args 0 [.ref 10, .int (Int32.ofNat s), .int z], [], w) := by
  obtain ⟨hC, hP, hM, hV, ⟨f1, f2, f3, f4, f5, f6⟩, hW1, hW2, hW3⟩ := id h
  have g0 : pi_get (lv_args 0 [.ref 10, .int (Int32.ofNat s), .int z]) 0 = some (.ref 10) := rfl
  have g1 : pi_get (lv_args 0 [.ref 10, .int (Int32.ofNat s), .int z]) 1 = some (.int (Int32.ofNat s)) := rfl
  have g2 : pi_get (lv_args 0 [.ref 10, .int (Int32.ofNat s), .int z]) 2 = some (.int z) := rfl
  have kc0 : ((0 : Int32)).toInt = 0 := by decide
  have kc1 : ((1 : Int32)).toInt = 1 := by decide
  have kc2 : ((Int32.ofInt 1)).toInt = 1 := by decide
  have kc3 : ((Int32.ofInt 4)).toInt = 4 := by decide
  have kz := sy_z0
  refine hq_F.st (s' := (1, _, _, _)) hf23_0 rfl rfl rfl (hs_al g0) ?_
  refine hq_F.st (s' := (4, _, _, _)) hf23_1 rfl rfl rfl (hq_gf hC sh_10 sk_3_15 (hq_ref hC sh_10 (b := 7) rfl)) ?_
  refine hq_F.st (s' := (7, _, _, _)) hf23_4 rfl rfl rfl (hq_gf hC sh_7 sk_3_84 (hq_ref hC sh_7 (b := 8) rfl)) ?_
  refine hq_F.st (s' := (8, _, _, _)) hf23_7 rfl rfl rfl (hs_iln g1) ?_
  refine hq_F.call hf23_8 rfl rfl si_3_88 (by decide) (by decide) sz_159 (sy_argsS rfl rfl rfl (Nat.le_of_ble_eq_true rfl) (by decide) rfl (Nat.le_of_ble_eq_true rfl) (by decide)) (ca_at hC sh_8 (j := s) (by omega) (by omega)) (fun _ _ q => by rw [q.1]) ?_
  rintro r8 w ⟨rfl, rfl⟩
  try dsimp only
  refine hq_F.st (s' := (12, _, _, _)) hf23_11 rfl rfl rfl (hs_iln g2) ?_
  by_cases b12 : ((gv w 8 s)).toInt < (z).toInt
  · skip
    refine hq_F.st (s' := (24, _, _, _)) hf23_12 rfl rfl rfl (hs_ic (ci_lt (by omega)) rfl) ?_
    refine hq_F.st (s' := (25, _, _, _)) hf23_24 rfl rfl rfl (hs_al g0) ?_
    refine hq_F.st (s' := (28, _, _, _)) hf23_25 rfl rfl rfl (hq_gf hC sh_10 sk_3_9 (hq_ref hC sh_10 (b := 1) rfl)) ?_
    refine hq_F.call hf23_28 rfl rfl si_3_68 (by decide) (by decide) sz_98 (sy_argsV hC sh_1 rfl rfl rfl (Nat.le_of_ble_eq_true rfl) rfl (Nat.le_of_ble_eq_true rfl) rfl (by decide)) (ct_adv (d := d) h (by omega)) (fun _ _ q => by rw [q.2.1.1.1, hC.1]) ?_
    rintro r28 w8 ⟨rfl, k1, k2⟩
    try dsimp only
    refine hq_F.st (s' := (32, _, _, _)) hf23_31 rfl rfl rfl rfl ?_
    refine hq_F.en hf23_32 rfl rfl ?_
    exact Or.inl ⟨rfl, by omega, k1, k2⟩
  · skip
    refine hq_F.st (s' := (15, _, _, _)) hf23_12 rfl rfl rfl (hs_icn (t := 24) (ci_ltn (by omega)) rfl) ?_
    refine hq_F.st (s' := (16, _, _, _)) hf23_15 rfl rfl rfl (hs_al g0) ?_
    refine hq_F.st (s' := (19, _, _, _)) hf23_16 rfl rfl rfl (hq_gf hC sh_10 sk_3_9 (hq_ref hC sh_10 (b := 1) rfl)) ?_
    refine hq_F.st (s' := (20, _, _, _)) hf23_19 rfl rfl rfl rfl ?_
    refine hq_F.call hf23_20 rfl rfl si_3_80 (by decide) (by decide) sz_103 (sy_argsV hC sh_1 rfl rfl rfl (Nat.le_of_ble_eq_true rfl) rfl (Nat.le_of_ble_eq_true rfl) rfl (by decide)) (ct_ref h ((Int32.ofInt 4))) (fun _ _ q => by rw [q.2.1.1.1, hC.1]) ?_
    rintro r20 w9 ⟨rfl, k1, k2, k3, k4⟩
    try dsimp only
    refine hq_F.en hf23_23 rfl rfl ?_
    exact Or.inr ⟨rfl, by omega, k1, k2, by rw [k3]; decide, k4⟩
theorem cl_nn0 {d B M : Nat} {tp : Nat → Nat} {w : pi_W} {t : tq_T} {NT : List nt_E} (h : CT tp B M w t) (hN : NC w 8 9 NT) (ho : nt_ok NT) (hc : (gv w 8 0).toInt = (nt_c 0 NT : Int)) (hm : nt_c 0 NT < 10) (hl : NT.length < 27) : hq_F (d + 3) sm24 (fun r w' => (r = some (.int (Int32.ofNat (nt_c 0 NT))) ∧ (t.1 = 2 ∧ tq_kx t.2.2.2.1 = -1) ∧ nt_t NT t.2.2.2.1 = false ∧ CT tp B M w' (tq_nx tp B M t) ∧ NC w' 8 9 (NT ++ [(0, nt_c 0 NT, t.2.2.2.1)]) ∧ af_Fr [(1, 4, 10), (8, 0, 1), (8, 5, 6), (8, 116, 170), (9, 0, 27)] w w' ∧ (gv w' 8 0).toInt = ((nt_c 0 NT + 1 : Nat) : Int)) ∨ (r = some (.int (-1)) ∧ CT tp B M w' t ∧ af_Fr [(1, 10, 12)] w w' ∧ ((¬ (t.1 = 2 ∧ tq_kx t.2.2.2.1 = -1) ∧ FC w' 1 t.2.1) ∨ ((t.1 = 2 ∧ tq_kx t.2.2.2.1 = -1) ∧ nt_t NT t.2.2.2.1 = true ∧ FC w' 3 t.2.1)))) (0, lv_args 0 [.ref 10, .int (Int32.ofInt 0)], [], w) := by
  obtain ⟨hC, hP, hM, hV, ⟨f1, f2, f3, f4, f5, f6⟩, hW1, hW2, hW3⟩ := id h
  have g0 : pi_get (lv_args 0 [.ref 10, .int (Int32.ofInt 0)]) 0 = some (.ref 10) := rfl
  have g1 : pi_get (lv_args 0 [.ref 10, .int (Int32.ofInt 0)]) 1 = some (.int (Int32.ofInt 0)) := rfl
  have kc0 : ((0 : Int32)).toInt = 0 := by decide
  have kc1 : ((1 : Int32)).toInt = 1 := by decide
  have kc2 : ((Int32.ofInt (-1))).toInt = (-1) := by decide
  have kc3 : ((Int32.ofInt 1)).toInt = 1 := by decide
  have kc4 : ((Int32.ofInt 3)).toInt = 3 := by decide
  have kz := sy_z0
  refine hq_F.st (s' := (1, _, _, _)) hf24_0 rfl rfl rfl (hs_al g0) ?_
  refine hq_F.st (s' := (4, _, _, _)) hf24_1 rfl rfl rfl (hq_gf hC sh_10 sk_3_9 (hq_ref hC sh_10 (b := 1) rfl)) ?_
  refine hq_F.call hf24_4 rfl rfl si_3_92 (by decide) (by decide) sz_107 (sy_argsV hC sh_1 rfl rfl rfl (Nat.le_of_ble_eq_true rfl) rfl (Nat.le_of_ble_eq_true rfl) rfl (by decide)) (ct_isN h) (fun _ _ q => by rw [q.1]) ?_
  rintro r4 w ⟨rfl, rfl⟩
  try dsimp only
  by_cases hs : t.1 = 2 ∧ tq_kx t.2.2.2.1 = -1
  · rw [decide_eq_true hs, show tq_b true = (1 : Int32) from rfl]
    refine hq_F.st (s' := (21, _, _, _)) hf24_7 rfl rfl rfl (hs_if (ci_ne (by omega)) rfl) ?_
    have h2 := hs.1
    have hu : nt_w t.2.2.2.1 := hW3 h2
    refine hq_F.st (s' := (22, _, _, _)) hf24_21 rfl rfl rfl (hs_al g0) ?_
    refine hq_F.st (s' := (25, _, _, _)) hf24_22 rfl rfl rfl (hq_gf hC sh_10 sk_3_15 (hq_ref hC sh_10 (b := 7) rfl)) ?_
    refine hq_F.st (s' := (26, _, _, _)) hf24_25 rfl rfl rfl (hs_al g0) ?_
    refine hq_F.st (s' := (29, _, _, _)) hf24_26 rfl rfl rfl (hq_gf hC sh_10 sk_3_9 (hq_ref hC sh_10 (b := 1) rfl)) ?_
    refine hq_F.st (s' := (32, _, _, _)) hf24_29 rfl rfl rfl (hq_gf hC sh_1 sk_3_95 (sy_vl hC sh_1 rfl)) ?_
    rw [f4 h2]
    refine hq_F.call hf24_32 rfl rfl si_3_99 (by decide) (by decide) sz_12 (sy_argsV hC sh_7 rfl rfl rfl (Nat.le_of_ble_eq_true rfl) rfl (Nat.le_of_ble_eq_true rfl) rfl (by decide)) (cn_td_s (d := d + 1) hC hN ho hu) (fun _ _ q => by rw [q.1]) ?_
    rintro r32 w ⟨rfl, rfl⟩
    try dsimp only
    cases hto : nt_t NT t.2.2.2.1
    · rw [show tq_b false = (0 : Int32) from rfl]
      refine hq_F.st (s' := (49, _, _, _)) hf24_35 rfl rfl rfl (hs_if (ci_eq (by omega)) rfl) ?_
      refine hq_F.st (s' := (50, _, _, _)) hf24_49 rfl rfl rfl (hs_al g0) ?_
      refine hq_F.st (s' := (53, _, _, _)) hf24_50 rfl rfl rfl (hq_gf hC sh_10 sk_3_15 (hq_ref hC sh_10 (b := 7) rfl)) ?_
      refine hq_F.st (s' := (54, _, _, _)) hf24_53 rfl rfl rfl (hs_al g0) ?_
      refine hq_F.st (s' := (57, _, _, _)) hf24_54 rfl rfl rfl (hq_gf hC sh_10 sk_3_9 (hq_ref hC sh_10 (b := 1) rfl)) ?_
      refine hq_F.st (s' := (60, _, _, _)) hf24_57 rfl rfl rfl (hq_gf hC sh_1 sk_3_95 (sy_vl hC sh_1 rfl)) ?_
      rw [f4 h2]
      refine hq_F.st (s' := (61, _, _, _)) hf24_60 rfl rfl rfl (hs_iln g1) ?_
      refine hq_F.call hf24_61 rfl rfl si_3_103 (by decide) (by decide) sz_14 (sy_argsV hC sh_7 rfl rfl rfl (Nat.le_of_ble_eq_true rfl) rfl (Nat.le_of_ble_eq_true rfl) rfl (by decide)) (cn_add0 (d := d + 1) (u := t.2.2.2.1) hC hN hc hm hl) (fun _ _ q => by rw [q.2.1.1, hC.1]) ?_
      rintro r61 w7 ⟨rfl, hC7, q1, q2, q3, _⟩
      try dsimp only
      refine hq_F.st (s' := (65, _, _, _)) hf24_64 rfl rfl rfl rfl ?_
      refine hq_F.st (s' := (66, _, _, _)) hf24_65 rfl rfl rfl (hs_al (hg_nr g0 (by decide))) ?_
      refine hq_F.st (s' := (69, _, _, _)) hf24_66 rfl rfl rfl (hq_gf hC7 sh_10 sk_3_9 (hq_ref hC7 sh_10 (b := 1) rfl)) ?_
      refine hq_F.call hf24_69 rfl rfl si_3_68 (by decide) (by decide) sz_98 (sy_argsV hC7 sh_1 rfl rfl rfl (Nat.le_of_ble_eq_true rfl) rfl (Nat.le_of_ble_eq_true rfl) rfl (by decide)) (ct_adv (d := d) (h.fr hC7 q2 rfl) (by omega)) (fun _ _ q => by rw [q.2.1.1.1, hC7.1]) ?_
      rintro r69 w8 ⟨rfl, k1, k2⟩
      try dsimp only
      refine hq_F.st (s' := (73, _, _, _)) hf24_72 rfl rfl rfl (hs_iln (pi_get_set _ _ _)) ?_
      refine hq_F.en hf24_73 rfl (pi_ri _) ?_
      refine Or.inl ⟨rfl, hs, rfl, k1, q1.fr k2 (by decide) (by decide), (q2.cov (by decide)).tr (k2.cov (by decide)), ?_⟩
      rw [gv_eq (k2 8 0 (by decide))]
      exact q3
    · rw [show tq_b true = (1 : Int32) from rfl]
      refine hq_F.st (s' := (38, _, _, _)) hf24_35 rfl rfl rfl (hs_ifn (t := 49) (ci_eqn (by omega)) rfl) ?_
      refine hq_F.st (s' := (39, _, _, _)) hf24_38 rfl rfl rfl (hs_al g0) ?_
      refine hq_F.st (s' := (42, _, _, _)) hf24_39 rfl rfl rfl (hq_gf hC sh_10 sk_3_9 (hq_ref hC sh_10 (b := 1) rfl)) ?_
      refine hq_F.st (s' := (43, _, _, _)) hf24_42 rfl rfl rfl rfl ?_
      refine hq_F.call hf24_43 rfl rfl si_3_80 (by decide) (by decide) sz_103 (sy_argsV hC sh_1 rfl rfl rfl (Nat.le_of_ble_eq_true rfl) rfl (Nat.le_of_ble_eq_true rfl) rfl (by decide)) (ct_ref h ((Int32.ofInt 3))) (fun _ _ q => by rw [q.2.1.1.1, hC.1]) ?_
      rintro r43 w9 ⟨rfl, k1, k2, k3, k4⟩
      try dsimp only
      refine hq_F.st (s' := (47, _, _, _)) hf24_46 rfl rfl rfl rfl ?_
      refine hq_F.st (s' := (48, _, _, _)) hf24_47 rfl rfl rfl rfl ?_
      refine hq_F.en hf24_48 rfl rfl ?_
      exact Or.inr ⟨rfl, k1, k2, Or.inr ⟨hs, rfl, by rw [k3]; decide, k4⟩⟩
  · rw [decide_eq_false hs, show tq_b false = (0 : Int32) from rfl]
    refine hq_F.st (s' := (10, _, _, _)) hf24_7 rfl rfl rfl (hs_ifn (t := 21) (ci_nen (by omega)) rfl) ?_
    refine hq_F.st (s' := (11, _, _, _)) hf24_10 rfl rfl rfl (hs_al g0) ?_
    refine hq_F.st (s' := (14, _, _, _)) hf24_11 rfl rfl rfl (hq_gf hC sh_10 sk_3_9 (hq_ref hC sh_10 (b := 1) rfl)) ?_
    refine hq_F.st (s' := (15, _, _, _)) hf24_14 rfl rfl rfl rfl ?_
    refine hq_F.call hf24_15 rfl rfl si_3_80 (by decide) (by decide) sz_103 (sy_argsV hC sh_1 rfl rfl rfl (Nat.le_of_ble_eq_true rfl) rfl (Nat.le_of_ble_eq_true rfl) rfl (by decide)) (ct_ref h ((Int32.ofInt 1))) (fun _ _ q => by rw [q.2.1.1.1, hC.1]) ?_
    rintro r15 w9 ⟨rfl, k1, k2, k3, k4⟩
    try dsimp only
    refine hq_F.st (s' := (19, _, _, _)) hf24_18 rfl rfl rfl rfl ?_
    refine hq_F.st (s' := (20, _, _, _)) hf24_19 rfl rfl rfl rfl ?_
    refine hq_F.en hf24_20 rfl rfl ?_
    exact Or.inr ⟨rfl, k1, k2, Or.inl ⟨hs, by rw [k3]; decide, k4⟩⟩
theorem cl_nn2 {d B M : Nat} {tp : Nat → Nat} {w : pi_W} {t : tq_T} {NT : List nt_E} (h : CT tp B M w t) (hN : NC w 8 9 NT) (ho : nt_ok NT) (hc : (gv w 8 2).toInt = (nt_c 2 NT : Int)) (hm : nt_c 2 NT < 5) (hl : NT.length < 27) : hq_F (d + 3) sm24 (fun r w' => (r = some (.int (Int32.ofNat (nt_c 2 NT))) ∧ (t.1 = 2 ∧ tq_kx t.2.2.2.1 = -1) ∧ nt_t NT t.2.2.2.1 = false ∧ CT tp B M w' (tq_nx tp B M t) ∧ NC w' 8 9 (NT ++ [(2, nt_c 2 NT, t.2.2.2.1)]) ∧ af_Fr [(1, 4, 10), (8, 2, 3), (8, 5, 6), (8, 116, 170), (9, 0, 27)] w w' ∧ (gv w' 8 2).toInt = ((nt_c 2 NT + 1 : Nat) : Int)) ∨ (r = some (.int (-1)) ∧ CT tp B M w' t ∧ af_Fr [(1, 10, 12)] w w' ∧ ((¬ (t.1 = 2 ∧ tq_kx t.2.2.2.1 = -1) ∧ FC w' 1 t.2.1) ∨ ((t.1 = 2 ∧ tq_kx t.2.2.2.1 = -1) ∧ nt_t NT t.2.2.2.1 = true ∧ FC w' 3 t.2.1)))) (0, lv_args 0 [.ref 10, .int (Int32.ofInt 2)], [], w) := by
  obtain ⟨hC, hP, hM, hV, ⟨f1, f2, f3, f4, f5, f6⟩, hW1, hW2, hW3⟩ := id h
  have g0 : pi_get (lv_args 0 [.ref 10, .int (Int32.ofInt 2)]) 0 = some (.ref 10) := rfl
  have g1 : pi_get (lv_args 0 [.ref 10, .int (Int32.ofInt 2)]) 1 = some (.int (Int32.ofInt 2)) := rfl
  have kc0 : ((0 : Int32)).toInt = 0 := by decide
  have kc1 : ((1 : Int32)).toInt = 1 := by decide
  have kc2 : ((Int32.ofInt (-1))).toInt = (-1) := by decide
  have kc3 : ((Int32.ofInt 1)).toInt = 1 := by decide
  have kc4 : ((Int32.ofInt 3)).toInt = 3 := by decide
  have kz := sy_z0
  refine hq_F.st (s' := (1, _, _, _)) hf24_0 rfl rfl rfl (hs_al g0) ?_
  refine hq_F.st (s' := (4, _, _, _)) hf24_1 rfl rfl rfl (hq_gf hC sh_10 sk_3_9 (hq_ref hC sh_10 (b := 1) rfl)) ?_
  refine hq_F.call hf24_4 rfl rfl si_3_92 (by decide) (by decide) sz_107 (sy_argsV hC sh_1 rfl rfl rfl (Nat.le_of_ble_eq_true rfl) rfl (Nat.le_of_ble_eq_true rfl) rfl (by decide)) (ct_isN h) (fun _ _ q => by rw [q.1]) ?_
  rintro r4 w ⟨rfl, rfl⟩
  try dsimp only
  by_cases hs : t.1 = 2 ∧ tq_kx t.2.2.2.1 = -1
  · rw [decide_eq_true hs, show tq_b true = (1 : Int32) from rfl]
    refine hq_F.st (s' := (21, _, _, _)) hf24_7 rfl rfl rfl (hs_if (ci_ne (by omega)) rfl) ?_
    have h2 := hs.1
    have hu : nt_w t.2.2.2.1 := hW3 h2
    refine hq_F.st (s' := (22, _, _, _)) hf24_21 rfl rfl rfl (hs_al g0) ?_
    refine hq_F.st (s' := (25, _, _, _)) hf24_22 rfl rfl rfl (hq_gf hC sh_10 sk_3_15 (hq_ref hC sh_10 (b := 7) rfl)) ?_
    refine hq_F.st (s' := (26, _, _, _)) hf24_25 rfl rfl rfl (hs_al g0) ?_
    refine hq_F.st (s' := (29, _, _, _)) hf24_26 rfl rfl rfl (hq_gf hC sh_10 sk_3_9 (hq_ref hC sh_10 (b := 1) rfl)) ?_
    refine hq_F.st (s' := (32, _, _, _)) hf24_29 rfl rfl rfl (hq_gf hC sh_1 sk_3_95 (sy_vl hC sh_1 rfl)) ?_
    rw [f4 h2]
    refine hq_F.call hf24_32 rfl rfl si_3_99 (by decide) (by decide) sz_12 (sy_argsV hC sh_7 rfl rfl rfl (Nat.le_of_ble_eq_true rfl) rfl (Nat.le_of_ble_eq_true rfl) rfl (by decide)) (cn_td_s (d := d + 1) hC hN ho hu) (fun _ _ q => by rw [q.1]) ?_
    rintro r32 w ⟨rfl, rfl⟩
    try dsimp only
    cases hto : nt_t NT t.2.2.2.1
    · rw [show tq_b false = (0 : Int32) from rfl]
      refine hq_F.st (s' := (49, _, _, _)) hf24_35 rfl rfl rfl (hs_if (ci_eq (by omega)) rfl) ?_
      refine hq_F.st (s' := (50, _, _, _)) hf24_49 rfl rfl rfl (hs_al g0) ?_
      refine hq_F.st (s' := (53, _, _, _)) hf24_50 rfl rfl rfl (hq_gf hC sh_10 sk_3_15 (hq_ref hC sh_10 (b := 7) rfl)) ?_
      refine hq_F.st (s' := (54, _, _, _)) hf24_53 rfl rfl rfl (hs_al g0) ?_
      refine hq_F.st (s' := (57, _, _, _)) hf24_54 rfl rfl rfl (hq_gf hC sh_10 sk_3_9 (hq_ref hC sh_10 (b := 1) rfl)) ?_
      refine hq_F.st (s' := (60, _, _, _)) hf24_57 rfl rfl rfl (hq_gf hC sh_1 sk_3_95 (sy_vl hC sh_1 rfl)) ?_
      rw [f4 h2]
      refine hq_F.st (s' := (61, _, _, _)) hf24_60 rfl rfl rfl (hs_iln g1) ?_
      refine hq_F.call hf24_61 rfl rfl si_3_103 (by decide) (by decide) sz_14 (sy_argsV hC sh_7 rfl rfl rfl (Nat.le_of_ble_eq_true rfl) rfl (Nat.le_of_ble_eq_true rfl) rfl (by decide)) (cn_add2 (d := d + 1) (u := t.2.2.2.1) hC hN hc hm hl) (fun _ _ q => by rw [q.2.1.1, hC.1]) ?_
      rintro r61 w7 ⟨rfl, hC7, q1, q2, q3, _⟩
      try dsimp only
      refine hq_F.st (s' := (65, _, _, _)) hf24_64 rfl rfl rfl rfl ?_
      refine hq_F.st (s' := (66, _, _, _)) hf24_65 rfl rfl rfl (hs_al (hg_nr g0 (by decide))) ?_
      refine hq_F.st (s' := (69, _, _, _)) hf24_66 rfl rfl rfl (hq_gf hC7 sh_10 sk_3_9 (hq_ref hC7 sh_10 (b := 1) rfl)) ?_
      refine hq_F.call hf24_69 rfl rfl si_3_68 (by decide) (by decide) sz_98 (sy_argsV hC7 sh_1 rfl rfl rfl (Nat.le_of_ble_eq_true rfl) rfl (Nat.le_of_ble_eq_true rfl) rfl (by decide)) (ct_adv (d := d) (h.fr hC7 q2 rfl) (by omega)) (fun _ _ q => by rw [q.2.1.1.1, hC7.1]) ?_
      rintro r69 w8 ⟨rfl, k1, k2⟩
      try dsimp only
      refine hq_F.st (s' := (73, _, _, _)) hf24_72 rfl rfl rfl (hs_iln (pi_get_set _ _ _)) ?_
      refine hq_F.en hf24_73 rfl (pi_ri _) ?_
      refine Or.inl ⟨rfl, hs, rfl, k1, q1.fr k2 (by decide) (by decide), (q2.cov (by decide)).tr (k2.cov (by decide)), ?_⟩
      rw [gv_eq (k2 8 2 (by decide))]
      exact q3
    · rw [show tq_b true = (1 : Int32) from rfl]
      refine hq_F.st (s' := (38, _, _, _)) hf24_35 rfl rfl rfl (hs_ifn (t := 49) (ci_eqn (by omega)) rfl) ?_
      refine hq_F.st (s' := (39, _, _, _)) hf24_38 rfl rfl rfl (hs_al g0) ?_
      refine hq_F.st (s' := (42, _, _, _)) hf24_39 rfl rfl rfl (hq_gf hC sh_10 sk_3_9 (hq_ref hC sh_10 (b := 1) rfl)) ?_
      refine hq_F.st (s' := (43, _, _, _)) hf24_42 rfl rfl rfl rfl ?_
      refine hq_F.call hf24_43 rfl rfl si_3_80 (by decide) (by decide) sz_103 (sy_argsV hC sh_1 rfl rfl rfl (Nat.le_of_ble_eq_true rfl) rfl (Nat.le_of_ble_eq_true rfl) rfl (by decide)) (ct_ref h ((Int32.ofInt 3))) (fun _ _ q => by rw [q.2.1.1.1, hC.1]) ?_
      rintro r43 w9 ⟨rfl, k1, k2, k3, k4⟩
      try dsimp only
      refine hq_F.st (s' := (47, _, _, _)) hf24_46 rfl rfl rfl rfl ?_
      refine hq_F.st (s' := (48, _, _, _)) hf24_47 rfl rfl rfl rfl ?_
      refine hq_F.en hf24_48 rfl rfl ?_
      exact Or.inr ⟨rfl, k1, k2, Or.inr ⟨hs, rfl, by rw [k3]; decide, k4⟩⟩
  · rw [decide_eq_false hs, show tq_b false = (0 : Int32) from rfl]
    refine hq_F.st (s' := (10, _, _, _)) hf24_7 rfl rfl rfl (hs_ifn (t := 21) (ci_nen (by omega)) rfl) ?_
    refine hq_F.st (s' := (11, _, _, _)) hf24_10 rfl rfl rfl (hs_al g0) ?_
    refine hq_F.st (s' := (14, _, _, _)) hf24_11 rfl rfl rfl (hq_gf hC sh_10 sk_3_9 (hq_ref hC sh_10 (b := 1) rfl)) ?_
    refine hq_F.st (s' := (15, _, _, _)) hf24_14 rfl rfl rfl rfl ?_
    refine hq_F.call hf24_15 rfl rfl si_3_80 (by decide) (by decide) sz_103 (sy_argsV hC sh_1 rfl rfl rfl (Nat.le_of_ble_eq_true rfl) rfl (Nat.le_of_ble_eq_true rfl) rfl (by decide)) (ct_ref h ((Int32.ofInt 1))) (fun _ _ q => by rw [q.2.1.1.1, hC.1]) ?_
    rintro r15 w9 ⟨rfl, k1, k2, k3, k4⟩
    try dsimp only
    refine hq_F.st (s' := (19, _, _, _)) hf24_18 rfl rfl rfl rfl ?_
    refine hq_F.st (s' := (20, _, _, _)) hf24_19 rfl rfl rfl rfl ?_
    refine hq_F.en hf24_20 rfl rfl ?_
    exact Or.inr ⟨rfl, k1, k2, Or.inl ⟨hs, by rw [k3]; decide, k4⟩⟩
theorem cl_nn3 {d B M : Nat} {tp : Nat → Nat} {w : pi_W} {t : tq_T} {NT : List nt_E} (h : CT tp B M w t) (hN : NC w 8 9 NT) (ho : nt_ok NT) (hc : (gv w 8 3).toInt = (nt_c 3 NT : Int)) (hm : nt_c 3 NT < 6) (hl : NT.length < 27) : hq_F (d + 3) sm24 (fun r w' => (r = some (.int (Int32.ofNat (nt_c 3 NT))) ∧ (t.1 = 2 ∧ tq_kx t.2.2.2.1 = -1) ∧ nt_t NT t.2.2.2.1 = false ∧ CT tp B M w' (tq_nx tp B M t) ∧ NC w' 8 9 (NT ++ [(3, nt_c 3 NT, t.2.2.2.1)]) ∧ af_Fr [(1, 4, 10), (8, 3, 4), (8, 5, 6), (8, 116, 170), (9, 0, 27)] w w' ∧ (gv w' 8 3).toInt = ((nt_c 3 NT + 1 : Nat) : Int)) ∨ (r = some (.int (-1)) ∧ CT tp B M w' t ∧ af_Fr [(1, 10, 12)] w w' ∧ ((¬ (t.1 = 2 ∧ tq_kx t.2.2.2.1 = -1) ∧ FC w' 1 t.2.1) ∨ ((t.1 = 2 ∧ tq_kx t.2.2.2.1 = -1) ∧ nt_t NT t.2.2.2.1 = true ∧ FC w' 3 t.2.1)))) (0, lv_args 0 [.ref 10, .int (Int32.ofInt 3)], [], w) := by
  obtain ⟨hC, hP, hM, hV, ⟨f1, f2, f3, f4, f5, f6⟩, hW1, hW2, hW3⟩ := id h
  have g0 : pi_get (lv_args 0 [.ref 10, .int (Int32.ofInt 3)]) 0 = some (.ref 10) := rfl
  have g1 : pi_get (lv_args 0 [.ref 10, .int (Int32.ofInt 3)]) 1 = some (.int (Int32.ofInt 3)) := rfl
  have kc0 : ((0 : Int32)).toInt = 0 := by decide
  have kc1 : ((1 : Int32)).toInt = 1 := by decide
  have kc2 : ((Int32.ofInt (-1))).toInt = (-1) := by decide
  have kc3 : ((Int32.ofInt 1)).toInt = 1 := by decide
  have kc4 : ((Int32.ofInt 3)).toInt = 3 := by decide
  have kz := sy_z0
  refine hq_F.st (s' := (1, _, _, _)) hf24_0 rfl rfl rfl (hs_al g0) ?_
  refine hq_F.st (s' := (4, _, _, _)) hf24_1 rfl rfl rfl (hq_gf hC sh_10 sk_3_9 (hq_ref hC sh_10 (b := 1) rfl)) ?_
  refine hq_F.call hf24_4 rfl rfl si_3_92 (by decide) (by decide) sz_107 (sy_argsV hC sh_1 rfl rfl rfl (Nat.le_of_ble_eq_true rfl) rfl (Nat.le_of_ble_eq_true rfl) rfl (by decide)) (ct_isN h) (fun _ _ q => by rw [q.1]) ?_
  rintro r4 w ⟨rfl, rfl⟩
  try dsimp only
  by_cases hs : t.1 = 2 ∧ tq_kx t.2.2.2.1 = -1
  · rw [decide_eq_true hs, show tq_b true = (1 : Int32) from rfl]
    refine hq_F.st (s' := (21, _, _, _)) hf24_7 rfl rfl rfl (hs_if (ci_ne (by omega)) rfl) ?_
    have h2 := hs.1
    have hu : nt_w t.2.2.2.1 := hW3 h2
    refine hq_F.st (s' := (22, _, _, _)) hf24_21 rfl rfl rfl (hs_al g0) ?_
    refine hq_F.st (s' := (25, _, _, _)) hf24_22 rfl rfl rfl (hq_gf hC sh_10 sk_3_15 (hq_ref hC sh_10 (b := 7) rfl)) ?_
    refine hq_F.st (s' := (26, _, _, _)) hf24_25 rfl rfl rfl (hs_al g0) ?_
    refine hq_F.st (s' := (29, _, _, _)) hf24_26 rfl rfl rfl (hq_gf hC sh_10 sk_3_9 (hq_ref hC sh_10 (b := 1) rfl)) ?_
    refine hq_F.st (s' := (32, _, _, _)) hf24_29 rfl rfl rfl (hq_gf hC sh_1 sk_3_95 (sy_vl hC sh_1 rfl)) ?_
    rw [f4 h2]
    refine hq_F.call hf24_32 rfl rfl si_3_99 (by decide) (by decide) sz_12 (sy_argsV hC sh_7 rfl rfl rfl (Nat.le_of_ble_eq_true rfl) rfl (Nat.le_of_ble_eq_true rfl) rfl (by decide)) (cn_td_s (d := d + 1) hC hN ho hu) (fun _ _ q => by rw [q.1]) ?_
    rintro r32 w ⟨rfl, rfl⟩
    try dsimp only
    cases hto : nt_t NT t.2.2.2.1
    · rw [show tq_b false = (0 : Int32) from rfl]
      refine hq_F.st (s' := (49, _, _, _)) hf24_35 rfl rfl rfl (hs_if (ci_eq (by omega)) rfl) ?_
      refine hq_F.st (s' := (50, _, _, _)) hf24_49 rfl rfl rfl (hs_al g0) ?_
      refine hq_F.st (s' := (53, _, _, _)) hf24_50 rfl rfl rfl (hq_gf hC sh_10 sk_3_15 (hq_ref hC sh_10 (b := 7) rfl)) ?_
      refine hq_F.st (s' := (54, _, _, _)) hf24_53 rfl rfl rfl (hs_al g0) ?_
      refine hq_F.st (s' := (57, _, _, _)) hf24_54 rfl rfl rfl (hq_gf hC sh_10 sk_3_9 (hq_ref hC sh_10 (b := 1) rfl)) ?_
      refine hq_F.st (s' := (60, _, _, _)) hf24_57 rfl rfl rfl (hq_gf hC sh_1 sk_3_95 (sy_vl hC sh_1 rfl)) ?_
      rw [f4 h2]
      refine hq_F.st (s' := (61, _, _, _)) hf24_60 rfl rfl rfl (hs_iln g1) ?_
      refine hq_F.call hf24_61 rfl rfl si_3_103 (by decide) (by decide) sz_14 (sy_argsV hC sh_7 rfl rfl rfl (Nat.le_of_ble_eq_true rfl) rfl (Nat.le_of_ble_eq_true rfl) rfl (by decide)) (cn_add3 (d := d + 1) (u := t.2.2.2.1) hC hN hc hm hl) (fun _ _ q => by rw [q.2.1.1, hC.1]) ?_
      rintro r61 w7 ⟨rfl, hC7, q1, q2, q3, _⟩
      try dsimp only
      refine hq_F.st (s' := (65, _, _, _)) hf24_64 rfl rfl rfl rfl ?_
      refine hq_F.st (s' := (66, _, _, _)) hf24_65 rfl rfl rfl (hs_al (hg_nr g0 (by decide))) ?_
      refine hq_F.st (s' := (69, _, _, _)) hf24_66 rfl rfl rfl (hq_gf hC7 sh_10 sk_3_9 (hq_ref hC7 sh_10 (b := 1) rfl)) ?_
      refine hq_F.call hf24_69 rfl rfl si_3_68 (by decide) (by decide) sz_98 (sy_argsV hC7 sh_1 rfl rfl rfl (Nat.le_of_ble_eq_true rfl) rfl (Nat.le_of_ble_eq_true rfl) rfl (by decide)) (ct_adv (d := d) (h.fr hC7 q2 rfl) (by omega)) (fun _ _ q => by rw [q.2.1.1.1, hC7.1]) ?_
      rintro r69 w8 ⟨rfl, k1, k2⟩
      try dsimp only
      refine hq_F.st (s' := (73, _, _, _)) hf24_72 rfl rfl rfl (hs_iln (pi_get_set _ _ _)) ?_
      refine hq_F.en hf24_73 rfl (pi_ri _) ?_
      refine Or.inl ⟨rfl, hs, rfl, k1, q1.fr k2 (by decide) (by decide), (q2.cov (by decide)).tr (k2.cov (by decide)), ?_⟩
      rw [gv_eq (k2 8 3 (by decide))]
      exact q3
    · rw [show tq_b true = (1 : Int32) from rfl]
      refine hq_F.st (s' := (38, _, _, _)) hf24_35 rfl rfl rfl (hs_ifn (t := 49) (ci_eqn (by omega)) rfl) ?_
      refine hq_F.st (s' := (39, _, _, _)) hf24_38 rfl rfl rfl (hs_al g0) ?_
      refine hq_F.st (s' := (42, _, _, _)) hf24_39 rfl rfl rfl (hq_gf hC sh_10 sk_3_9 (hq_ref hC sh_10 (b := 1) rfl)) ?_
      refine hq_F.st (s' := (43, _, _, _)) hf24_42 rfl rfl rfl rfl ?_
      refine hq_F.call hf24_43 rfl rfl si_3_80 (by decide) (by decide) sz_103 (sy_argsV hC sh_1 rfl rfl rfl (Nat.le_of_ble_eq_true rfl) rfl (Nat.le_of_ble_eq_true rfl) rfl (by decide)) (ct_ref h ((Int32.ofInt 3))) (fun _ _ q => by rw [q.2.1.1.1, hC.1]) ?_
      rintro r43 w9 ⟨rfl, k1, k2, k3, k4⟩
      try dsimp only
      refine hq_F.st (s' := (47, _, _, _)) hf24_46 rfl rfl rfl rfl ?_
      refine hq_F.st (s' := (48, _, _, _)) hf24_47 rfl rfl rfl rfl ?_
      refine hq_F.en hf24_48 rfl rfl ?_
      exact Or.inr ⟨rfl, k1, k2, Or.inr ⟨hs, rfl, by rw [k3]; decide, k4⟩⟩
  · rw [decide_eq_false hs, show tq_b false = (0 : Int32) from rfl]
    refine hq_F.st (s' := (10, _, _, _)) hf24_7 rfl rfl rfl (hs_ifn (t := 21) (ci_nen (by omega)) rfl) ?_
    refine hq_F.st (s' := (11, _, _, _)) hf24_10 rfl rfl rfl (hs_al g0) ?_
    refine hq_F.st (s' := (14, _, _, _)) hf24_11 rfl rfl rfl (hq_gf hC sh_10 sk_3_9 (hq_ref hC sh_10 (b := 1) rfl)) ?_
    refine hq_F.st (s' := (15, _, _, _)) hf24_14 rfl rfl rfl rfl ?_
    refine hq_F.call hf24_15 rfl rfl si_3_80 (by decide) (by decide) sz_103 (sy_argsV hC sh_1 rfl rfl rfl (Nat.le_of_ble_eq_true rfl) rfl (Nat.le_of_ble_eq_true rfl) rfl (by decide)) (ct_ref h ((Int32.ofInt 1))) (fun _ _ q => by rw [q.2.1.1.1, hC.1]) ?_
    rintro r15 w9 ⟨rfl, k1, k2, k3, k4⟩
    try dsimp only
    refine hq_F.st (s' := (19, _, _, _)) hf24_18 rfl rfl rfl rfl ?_
    refine hq_F.st (s' := (20, _, _, _)) hf24_19 rfl rfl rfl rfl ?_
    refine hq_F.en hf24_20 rfl rfl ?_
    exact Or.inr ⟨rfl, k1, k2, Or.inl ⟨hs, by rw [k3]; decide, k4⟩⟩
theorem cl_nn4 {d B M : Nat} {tp : Nat → Nat} {w : pi_W} {t : tq_T} {NT : List nt_E} (h : CT tp B M w t) (hN : NC w 8 9 NT) (ho : nt_ok NT) (hc : (gv w 8 4).toInt = (nt_c 4 NT : Int)) (hm : nt_c 4 NT < 6) (hl : NT.length < 27) : hq_F (d + 3) sm24 (fun r w' => (r = some (.int (Int32.ofNat (nt_c 4 NT))) ∧ (t.1 = 2 ∧ tq_kx t.2.2.2.1 = -1) ∧ nt_t NT t.2.2.2.1 = false ∧ CT tp B M w' (tq_nx tp B M t) ∧ NC w' 8 9 (NT ++ [(4, nt_c 4 NT, t.2.2.2.1)]) ∧ af_Fr [(1, 4, 10), (8, 4, 5), (8, 5, 6), (8, 116, 170), (9, 0, 27)] w w' ∧ (gv w' 8 4).toInt = ((nt_c 4 NT + 1 : Nat) : Int)) ∨ (r = some (.int (-1)) ∧ CT tp B M w' t ∧ af_Fr [(1, 10, 12)] w w' ∧ ((¬ (t.1 = 2 ∧ tq_kx t.2.2.2.1 = -1) ∧ FC w' 1 t.2.1) ∨ ((t.1 = 2 ∧ tq_kx t.2.2.2.1 = -1) ∧ nt_t NT t.2.2.2.1 = true ∧ FC w' 3 t.2.1)))) (0, lv_args 0 [.ref 10, .int (Int32.ofInt 4)], [], w) := by
  obtain ⟨hC, hP, hM, hV, ⟨f1, f2, f3, f4, f5, f6⟩, hW1, hW2, hW3⟩ := id h
  have g0 : pi_get (lv_args 0 [.ref 10, .int (Int32.ofInt 4)]) 0 = some (.ref 10) := rfl
  have g1 : pi_get (lv_args 0 [.ref 10, .int (Int32.ofInt 4)]) 1 = some (.int (Int32.ofInt 4)) := rfl
  have kc0 : ((0 : Int32)).toInt = 0 := by decide
  have kc1 : ((1 : Int32)).toInt = 1 := by decide
  have kc2 : ((Int32.ofInt (-1))).toInt = (-1) := by decide
  have kc3 : ((Int32.ofInt 1)).toInt = 1 := by decide
  have kc4 : ((Int32.ofInt 3)).toInt = 3 := by decide
  have kz := sy_z0
  refine hq_F.st (s' := (1, _, _, _)) hf24_0 rfl rfl rfl (hs_al g0) ?_
  refine hq_F.st (s' := (4, _, _, _)) hf24_1 rfl rfl rfl (hq_gf hC sh_10 sk_3_9 (hq_ref hC sh_10 (b := 1) rfl)) ?_
  refine hq_F.call hf24_4 rfl rfl si_3_92 (by decide) (by decide) sz_107 (sy_argsV hC sh_1 rfl rfl rfl (Nat.le_of_ble_eq_true rfl) rfl (Nat.le_of_ble_eq_true rfl) rfl (by decide)) (ct_isN h) (fun _ _ q => by rw [q.1]) ?_
  rintro r4 w ⟨rfl, rfl⟩
  try dsimp only
  by_cases hs : t.1 = 2 ∧ tq_kx t.2.2.2.1 = -1
  · rw [decide_eq_true hs, show tq_b true = (1 : Int32) from rfl]
    refine hq_F.st (s' := (21, _, _, _)) hf24_7 rfl rfl rfl (hs_if (ci_ne (by omega)) rfl) ?_
    have h2 := hs.1
    have hu : nt_w t.2.2.2.1 := hW3 h2
    refine hq_F.st (s' := (22, _, _, _)) hf24_21 rfl rfl rfl (hs_al g0) ?_
    refine hq_F.st (s' := (25, _, _, _)) hf24_22 rfl rfl rfl (hq_gf hC sh_10 sk_3_15 (hq_ref hC sh_10 (b := 7) rfl)) ?_
    refine hq_F.st (s' := (26, _, _, _)) hf24_25 rfl rfl rfl (hs_al g0) ?_
    refine hq_F.st (s' := (29, _, _, _)) hf24_26 rfl rfl rfl (hq_gf hC sh_10 sk_3_9 (hq_ref hC sh_10 (b := 1) rfl)) ?_
    refine hq_F.st (s' := (32, _, _, _)) hf24_29 rfl rfl rfl (hq_gf hC sh_1 sk_3_95 (sy_vl hC sh_1 rfl)) ?_
    rw [f4 h2]
    refine hq_F.call hf24_32 rfl rfl si_3_99 (by decide) (by decide) sz_12 (sy_argsV hC sh_7 rfl rfl rfl (Nat.le_of_ble_eq_true rfl) rfl (Nat.le_of_ble_eq_true rfl) rfl (by decide)) (cn_td_s (d := d + 1) hC hN ho hu) (fun _ _ q => by rw [q.1]) ?_
    rintro r32 w ⟨rfl, rfl⟩
    try dsimp only
    cases hto : nt_t NT t.2.2.2.1
    · rw [show tq_b false = (0 : Int32) from rfl]
      refine hq_F.st (s' := (49, _, _, _)) hf24_35 rfl rfl rfl (hs_if (ci_eq (by omega)) rfl) ?_
      refine hq_F.st (s' := (50, _, _, _)) hf24_49 rfl rfl rfl (hs_al g0) ?_
      refine hq_F.st (s' := (53, _, _, _)) hf24_50 rfl rfl rfl (hq_gf hC sh_10 sk_3_15 (hq_ref hC sh_10 (b := 7) rfl)) ?_
      refine hq_F.st (s' := (54, _, _, _)) hf24_53 rfl rfl rfl (hs_al g0) ?_
      refine hq_F.st (s' := (57, _, _, _)) hf24_54 rfl rfl rfl (hq_gf hC sh_10 sk_3_9 (hq_ref hC sh_10 (b := 1) rfl)) ?_
      refine hq_F.st (s' := (60, _, _, _)) hf24_57 rfl rfl rfl (hq_gf hC sh_1 sk_3_95 (sy_vl hC sh_1 rfl)) ?_
      rw [f4 h2]
      refine hq_F.st (s' := (61, _, _, _)) hf24_60 rfl rfl rfl (hs_iln g1) ?_
      refine hq_F.call hf24_61 rfl rfl si_3_103 (by decide) (by decide) sz_14 (sy_argsV hC sh_7 rfl rfl rfl (Nat.le_of_ble_eq_true rfl) rfl (Nat.le_of_ble_eq_true rfl) rfl (by decide)) (cn_add4 (d := d + 1) (u := t.2.2.2.1) hC hN hc hm hl) (fun _ _ q => by rw [q.2.1.1, hC.1]) ?_
      rintro r61 w7 ⟨rfl, hC7, q1, q2, q3, _⟩
      try dsimp only
      refine hq_F.st (s' := (65, _, _, _)) hf24_64 rfl rfl rfl rfl ?_
      refine hq_F.st (s' := (66, _, _, _)) hf24_65 rfl rfl rfl (hs_al (hg_nr g0 (by decide))) ?_
      refine hq_F.st (s' := (69, _, _, _)) hf24_66 rfl rfl rfl (hq_gf hC7 sh_10 sk_3_9 (hq_ref hC7 sh_10 (b := 1) rfl)) ?_
      refine hq_F.call hf24_69 rfl rfl si_3_68 (by decide) (by decide) sz_98 (sy_argsV hC7 sh_1 rfl rfl rfl (Nat.le_of_ble_eq_true rfl) rfl (Nat.le_of_ble_eq_true rfl) rfl (by decide)) (ct_adv (d := d) (h.fr hC7 q2 rfl) (by omega)) (fun _ _ q => by rw [q.2.1.1.1, hC7.1]) ?_
      rintro r69 w8 ⟨rfl, k1, k2⟩
      try dsimp only
      refine hq_F.st (s' := (73, _, _, _)) hf24_72 rfl rfl rfl (hs_iln (pi_get_set _ _ _)) ?_
      refine hq_F.en hf24_73 rfl (pi_ri _) ?_
      refine Or.inl ⟨rfl, hs, rfl, k1, q1.fr k2 (by decide) (by decide), (q2.cov (by decide)).tr (k2.cov (by decide)), ?_⟩
      rw [gv_eq (k2 8 4 (by decide))]
      exact q3
    · rw [show tq_b true = (1 : Int32) from rfl]
      refine hq_F.st (s' := (38, _, _, _)) hf24_35 rfl rfl rfl (hs_ifn (t := 49) (ci_eqn (by omega)) rfl) ?_
      refine hq_F.st (s' := (39, _, _, _)) hf24_38 rfl rfl rfl (hs_al g0) ?_
      refine hq_F.st (s' := (42, _, _, _)) hf24_39 rfl rfl rfl (hq_gf hC sh_10 sk_3_9 (hq_ref hC sh_10 (b := 1) rfl)) ?_
      refine hq_F.st (s' := (43, _, _, _)) hf24_42 rfl rfl rfl rfl ?_
      refine hq_F.call hf24_43 rfl rfl si_3_80 (by decide) (by decide) sz_103 (sy_argsV hC sh_1 rfl rfl rfl (Nat.le_of_ble_eq_true rfl) rfl (Nat.le_of_ble_eq_true rfl) rfl (by decide)) (ct_ref h ((Int32.ofInt 3))) (fun _ _ q => by rw [q.2.1.1.1, hC.1]) ?_
      rintro r43 w9 ⟨rfl, k1, k2, k3, k4⟩
      try dsimp only
      refine hq_F.st (s' := (47, _, _, _)) hf24_46 rfl rfl rfl rfl ?_
      refine hq_F.st (s' := (48, _, _, _)) hf24_47 rfl rfl rfl rfl ?_
      refine hq_F.en hf24_48 rfl rfl ?_
      exact Or.inr ⟨rfl, k1, k2, Or.inr ⟨hs, rfl, by rw [k3]; decide, k4⟩⟩
  · rw [decide_eq_false hs, show tq_b false = (0 : Int32) from rfl]
    refine hq_F.st (s' := (10, _, _, _)) hf24_7 rfl rfl rfl (hs_ifn (t := 21) (ci_nen (by omega)) rfl) ?_
    refine hq_F.st (s' := (11, _, _, _)) hf24_10 rfl rfl rfl (hs_al g0) ?_
    refine hq_F.st (s' := (14, _, _, _)) hf24_11 rfl rfl rfl (hq_gf hC sh_10 sk_3_9 (hq_ref hC sh_10 (b := 1) rfl)) ?_
    refine hq_F.st (s' := (15, _, _, _)) hf24_14 rfl rfl rfl rfl ?_
    refine hq_F.call hf24_15 rfl rfl si_3_80 (by decide) (by decide) sz_103 (sy_argsV hC sh_1 rfl rfl rfl (Nat.le_of_ble_eq_true rfl) rfl (Nat.le_of_ble_eq_true rfl) rfl (by decide)) (ct_ref h ((Int32.ofInt 1))) (fun _ _ q => by rw [q.2.1.1.1, hC.1]) ?_
    rintro r15 w9 ⟨rfl, k1, k2, k3, k4⟩
    try dsimp only
    refine hq_F.st (s' := (19, _, _, _)) hf24_18 rfl rfl rfl rfl ?_
    refine hq_F.st (s' := (20, _, _, _)) hf24_19 rfl rfl rfl rfl ?_
    refine hq_F.en hf24_20 rfl rfl ?_
    exact Or.inr ⟨rfl, k1, k2, Or.inl ⟨hs, by rw [k3]; decide, k4⟩⟩
